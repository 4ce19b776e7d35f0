section ZL
variable {p : Program} {l : Launch} {e : Env} {R : Room} {s : State} {m : MethodId} {args : Array Value} {below : List Frame} {meth : Method} {c : Code} {H : Heap} {locs : List Loc} {cells slots : Nat} {Q : State → Prop}
variable {cc : ByteArray} {pc a : Nat} {ls : Array Slot} {rest : List Value} {G : zC} {A : Nat → Prop} {ws ws' : va_W}
theorem z_last (hexec : p.tables.exec = Jvm.exec) (hb : c.code = cc) (hK : va_K G.1 vwCl (zT G) s) (hM : zM G A s H locs ws) (q0 : Nat) {n : Nat} {f : Nat → Int64} (ha : ws[q0]? = some (a, .inl (G.2 5, n, .inr (.inl f)))) {i : Int32} {x : Int64} (hin : vp_in i n) (hdg : decode cc pc = .ok (.lastore, 1))
    (hw : ws.set q0 (a, .inl (G.2 5, n, .inr (.inl (vp_updL f i.toNatClampNeg x)))) = ws') (kk : ∀ (H1 : Heap) (locs1 : List Loc), zM G A s H1 locs1 ws' → W p l e R s m args below meth c H1 locs1 cells slots Q (F0 m (pc + 1) ls rest)) : W p l e R s m args below meth c H locs cells slots Q (F0 m pc ls (.long x :: .int i :: .ref a :: rest)) :=
  va_last hexec hb hK hM.1 hM.2.1 hM.2.2 q0 5 ha rfl hin hdg (fun H1 locs1 h1 h2 h3 => kk H1 locs1 (hw ▸ ⟨h1, h2, h3⟩))
theorem z_lald (hexec : p.tables.exec = Jvm.exec) (hb : c.code = cc) (hK : va_K G.1 vwCl (zT G) s) (hM : zM G A s H locs ws) (q0 : Nat) {n : Nat} {f : Nat → Int64} (ha : ws[q0]? = some (a, .inl (G.2 5, n, .inr (.inl f)))) {i : Int32} (hin : vp_in i n) {v : Int64} (hv : f i.toNatClampNeg = v) (hdg : decode cc pc = .ok (.laload, 1))
    (kk : W p l e R s m args below meth c H locs cells slots Q (F0 m (pc + 1) ls (.long v :: rest))) : W p l e R s m args below meth c H locs cells slots Q (F0 m pc ls (.int i :: .ref a :: rest)) := by
  subst hv
  exact va_lald hexec hb hK hM.1 q0 5 ha rfl hin hdg kk
end ZL
set_option maxHeartbeats 4000000 in
set_option maxRecDepth 100000 in
theorem w_x_append1 (l : Launch) (G : zC) (hl0 : l.stackTraces = false) (o9 : Nat) (u1 u2 u3 u4 u5 u6 u7 : Value) (t9 z9 n : Nat) (v : Nat → Int32) (k9 : Int32) (hc : k9 < 0 ∨ 255 < k9) (oa : Nat) (og : Nat → Int64) : zMetN l G yL_append wsL_append rmL_append [.ref o9, .int k9, .ref oa] ([(oa, .inl (G.2 5, 1, .inr (.inl og)))] ++ ([(o9, .inr (6, [.ref t9, u1, u2, u3, u4, u5, u6, u7])), (t9, .inr (5, [.ref z9, .int (nI n)])), (z9, .inl (G.2 0, 120, .inl v))])) (some (.int 1)) ([(oa, .inl (G.2 5, 1, .inr (.inl og)))] ++ ([(o9, .inr (6, [.ref t9, u1, u2, u3, u4, u5, u6, u7])), (t9, .inr (5, [.ref z9, .int (nI n)])), (z9, .inl (G.2 0, 120, .inl v))])) := by
  refine zMetN_of (cc := cL_append) (maxL := 4) (ret := (some .int)) (hh := [(0, 9, 12, 13), (0, 9, 15, 15)]) (by decide) rfl (Nat.le_of_ble_eq_true rfl) ?_
  intro p e s m below meth c A ls hx hb hr htb hml hown hts hK hA hE hN hTh hlocks hin hM hl
  have hown : s.vm.findClass RL = some m.cls := hown
  have hl : lv_has ls 4 [(0, .ref o9), (1, .int k9), (2, .ref oa)] := hl
  refine lv_aload_n hx hb dL_append_0 rfl (lv_at hl 2 rfl) ?_
  refine lv_iconst (v := 0) hx hb dL_append_1 (by decide) ?_
  refine lv_aload_n hx hb dL_append_2 rfl (lv_at hl 0 rfl) ?_
  refine lv_iload_n hx hb dL_append_3 rfl (lv_at hl 1 rfl) ?_
  refine z_callVT (As := [.int k9]) (rest := [.int 0, .ref oa]) (wc := ([(o9, .inr (6, [.ref t9, u1, u2, u3, u4, u5, u6, u7])), (t9, .inr (5, [.ref z9, .int (nI n)])), (z9, .inl (G.2 0, 120, .inl v))])) (wr := [(oa, .inl (G.2 5, 1, .inr (.inl og)))]) ⟨hx, hb, hml, hown, hts⟩ (c_x_append1 l G hl0 o9 u1 u2 u3 u4 u5 u6 u7 t9 z9 n v k9 hc) (cwV 1 hts gL_append_X6_append rfl rfl rfl (by decide +kernel) ⟨(Nat.le_of_ble_eq_true rfl), (Nat.le_of_ble_eq_true rfl)⟩) 6 rfl rfl rfl rfl hl.1 rfl (Nat.le_of_ble_eq_true rfl) dL_append_4 ⟨(Nat.le_of_ble_eq_true rfl), (Nat.le_of_ble_eq_true rfl)⟩ hK hE hTh hA hM List.perm_append_comm (fun qx9 ce H locs hM hce hcv hcl9 => ?_)
  refine vx_catch (own := RL) (name := "java/lang/IllegalArgumentException") (E := "java/lang/IllegalArgumentException") (ce := ce) hown [] ⟨0, 9, 12, 13⟩ [⟨0, 9, 15, 15⟩] (htb.trans rfl) (fun z h9 => by cases h9) rfl (by decide) (hts (.classLink RL 13 "java/lang/IllegalArgumentException") (by decide +kernel)) (va_Nw.use rfl (hTh.2 "java/lang/IllegalArgumentException" (List.mem_of_getElem? (i := 0) rfl))) hce hcv hcl9 ?_
  refine lv_astore_n (lv' := [(3, .ref qx9), (0, .ref o9), (1, .int k9), (2, .ref oa)]) hx hb dL_append_12 rfl hl (by decide) rfl (fun ls hl => ?_)
  refine lv_iconst (v := 1) hx hb dL_append_13 (by decide) ?_
  exact z_iret hx hb hr hlocks dL_append_14 hM (Nat.le_of_ble_eq_true rfl) (Nat.le_of_ble_eq_true rfl) rfl
set_option maxHeartbeats 4000000 in
set_option maxRecDepth 100000 in
theorem w_x_append2 (l : Launch) (G : zC) (hl0 : l.stackTraces = false) (o9 : Nat) (u1 u2 u3 u4 u5 u6 u7 : Value) (t9 z9 n : Nat) (v : Nat → Int32) (k9 : Nat) (hk9 : k9 < 256) (hn : n = 120) (oa : Nat) (og : Nat → Int64) : zMetN l G yL_append wsL_append rmL_append [.ref o9, .int (nI k9), .ref oa] ([(oa, .inl (G.2 5, 1, .inr (.inl og)))] ++ ([(o9, .inr (6, [.ref t9, u1, u2, u3, u4, u5, u6, u7])), (t9, .inr (5, [.ref z9, .int (nI n)])), (z9, .inl (G.2 0, 120, .inl v))])) (some (.int 2)) ([(oa, .inl (G.2 5, 1, .inr (.inl og)))] ++ ([(o9, .inr (6, [.ref t9, u1, u2, u3, u4, u5, u6, u7])), (t9, .inr (5, [.ref z9, .int (nI n)])), (z9, .inl (G.2 0, 120, .inl v))])) := by
  refine zMetN_of (cc := cL_append) (maxL := 4) (ret := (some .int)) (hh := [(0, 9, 12, 13), (0, 9, 15, 15)]) (by decide) rfl (Nat.le_of_ble_eq_true rfl) ?_
  intro p e s m below meth c A ls hx hb hr htb hml hown hts hK hA hE hN hTh hlocks hin hM hl
  have hown : s.vm.findClass RL = some m.cls := hown
  have hl : lv_has ls 4 [(0, .ref o9), (1, .int (nI k9)), (2, .ref oa)] := hl
  refine lv_aload_n hx hb dL_append_0 rfl (lv_at hl 2 rfl) ?_
  refine lv_iconst (v := 0) hx hb dL_append_1 (by decide) ?_
  refine lv_aload_n hx hb dL_append_2 rfl (lv_at hl 0 rfl) ?_
  refine lv_iload_n hx hb dL_append_3 rfl (lv_at hl 1 rfl) ?_
  refine z_callVT (As := [.int (nI k9)]) (rest := [.int 0, .ref oa]) (wc := ([(o9, .inr (6, [.ref t9, u1, u2, u3, u4, u5, u6, u7])), (t9, .inr (5, [.ref z9, .int (nI n)])), (z9, .inl (G.2 0, 120, .inl v))])) (wr := [(oa, .inl (G.2 5, 1, .inr (.inl og)))]) ⟨hx, hb, hml, hown, hts⟩ (c_x_append2 l G hl0 o9 u1 u2 u3 u4 u5 u6 u7 t9 z9 n v k9 hk9 hn) (cwV 1 hts gL_append_X6_append rfl rfl rfl (by decide +kernel) ⟨(Nat.le_of_ble_eq_true rfl), (Nat.le_of_ble_eq_true rfl)⟩) 6 rfl rfl rfl rfl hl.1 rfl (Nat.le_of_ble_eq_true rfl) dL_append_4 ⟨(Nat.le_of_ble_eq_true rfl), (Nat.le_of_ble_eq_true rfl)⟩ hK hE hTh hA hM List.perm_append_comm (fun qx9 ce H locs hM hce hcv hcl9 => ?_)
  refine vx_catch (own := RL) (name := "java/lang/IllegalStateException") (E := "java/lang/IllegalStateException") (ce := ce) hown [⟨0, 9, 12, 13⟩] ⟨0, 9, 15, 15⟩ [] (htb.trans rfl) (fun z h9 => by cases List.mem_singleton.mp h9; exact Or.inr ⟨by decide, "java/lang/IllegalArgumentException", hts (.classLink RL 13 "java/lang/IllegalArgumentException") (by decide +kernel), hN ("java/lang/IllegalStateException", "java/lang/IllegalArgumentException") (List.mem_of_getElem? (i := 0) rfl)⟩) rfl (by decide) (hts (.classLink RL 15 "java/lang/IllegalStateException") (by decide +kernel)) (va_Nw.use rfl (hTh.2 "java/lang/IllegalStateException" (List.mem_of_getElem? (i := 1) rfl))) hce hcv hcl9 ?_
  refine lv_astore_n (lv' := [(3, .ref qx9), (0, .ref o9), (1, .int (nI k9)), (2, .ref oa)]) hx hb dL_append_15 rfl hl (by decide) rfl (fun ls hl => ?_)
  refine lv_iconst (v := 2) hx hb dL_append_16 (by decide) ?_
  exact z_iret hx hb hr hlocks dL_append_17 hM (Nat.le_of_ble_eq_true rfl) (Nat.le_of_ble_eq_true rfl) rfl
set_option maxHeartbeats 4000000 in
set_option maxRecDepth 100000 in
theorem w_x_append0 (l : Launch) (G : zC) (o9 : Nat) (u1 u2 u3 u4 u5 u6 u7 : Value) (t9 z9 n : Nat) (v : Nat → Int32) (k9 : Nat) (hk9 : k9 < 256) (hn : n < 120) (oa : Nat) (og : Nat → Int64) : zMetN l G yL_append wsL_append rmL_append [.ref o9, .int (nI k9), .ref oa] ([(oa, .inl (G.2 5, 1, .inr (.inl og)))] ++ ([(o9, .inr (6, [.ref t9, u1, u2, u3, u4, u5, u6, u7])), (t9, .inr (5, [.ref z9, .int (nI n)])), (z9, .inl (G.2 0, 120, .inl v))])) (some (.int 0)) ([(oa, .inl (G.2 5, 1, .inr (.inl (vp_updL og 0 (Int32.toInt64 (nI (n + 1)))))))] ++ ([(o9, .inr (6, [.ref t9, u1, u2, u3, u4, u5, u6, u7])), (t9, .inr (5, [.ref z9, .int (nI (n + 1))])), (z9, .inl (G.2 0, 120, .inl (upd v n (nI k9))))])) := by
  refine zMetN_of (cc := cL_append) (maxL := 4) (ret := (some .int)) (hh := [(0, 9, 12, 13), (0, 9, 15, 15)]) (by decide) rfl (Nat.le_of_ble_eq_true rfl) ?_
  intro p e s m below meth c A ls hx hb hr htb hml hown hts hK hA hE hN hTh hlocks hin hM hl
  have hown : s.vm.findClass RL = some m.cls := hown
  have hl : lv_has ls 4 [(0, .ref o9), (1, .int (nI k9)), (2, .ref oa)] := hl
  refine lv_aload_n hx hb dL_append_0 rfl (lv_at hl 2 rfl) ?_
  refine lv_iconst (v := 0) hx hb dL_append_1 (by decide) ?_
  refine lv_aload_n hx hb dL_append_2 rfl (lv_at hl 0 rfl) ?_
  refine lv_iload_n hx hb dL_append_3 rfl (lv_at hl 1 rfl) ?_
  refine z_callV (As := [.int (nI k9)]) (rest := [.int 0, .ref oa]) (wc := ([(o9, .inr (6, [.ref t9, u1, u2, u3, u4, u5, u6, u7])), (t9, .inr (5, [.ref z9, .int (nI n)])), (z9, .inl (G.2 0, 120, .inl v))])) (wr := [(oa, .inl (G.2 5, 1, .inr (.inl og)))]) (w1 := ([(o9, .inr (6, [.ref t9, u1, u2, u3, u4, u5, u6, u7])), (t9, .inr (5, [.ref z9, .int (nI (n + 1))])), (z9, .inl (G.2 0, 120, .inl (upd v n (nI k9))))])) (ws' := [(oa, .inl (G.2 5, 1, .inr (.inl og)))] ++ ([(o9, .inr (6, [.ref t9, u1, u2, u3, u4, u5, u6, u7])), (t9, .inr (5, [.ref z9, .int (nI (n + 1))])), (z9, .inl (G.2 0, 120, .inl (upd v n (nI k9))))])) ⟨hx, hb, hml, hown, hts⟩ (c_x_append0 l G o9 u1 u2 u3 u4 u5 u6 u7 t9 z9 n v k9 hk9 hn) (cwV 1 hts gL_append_X6_append rfl rfl rfl (by decide +kernel) ⟨(Nat.le_of_ble_eq_true rfl), (Nat.le_of_ble_eq_true rfl)⟩) 6 rfl rfl rfl rfl hl.1 rfl (Nat.le_of_ble_eq_true rfl) dL_append_4 ⟨(Nat.le_of_ble_eq_true rfl), (Nat.le_of_ble_eq_true rfl)⟩ hK hE hA hM List.perm_append_comm List.perm_append_comm (fun H locs hM hz => ?_)
  refine lv_i2l (v := Int32.toInt64 (nI (n + 1))) hx hb dL_append_7 rfl ?_
  refine z_last (ws' := [(oa, .inl (G.2 5, 1, .inr (.inl (vp_updL og 0 (Int32.toInt64 (nI (n + 1)))))))] ++ ([(o9, .inr (6, [.ref t9, u1, u2, u3, u4, u5, u6, u7])), (t9, .inr (5, [.ref z9, .int (nI (n + 1))])), (z9, .inl (G.2 0, 120, .inl (upd v n (nI k9))))])) hx hb hK hM 0 rfl (vp_in_nI (n := 0) (by decide) (by decide)) dL_append_8 rfl (fun H locs hM => ?_)
  refine lv_goto (tgt := 18) hx hb dL_append_9 (by decide) ?_
  refine lv_iconst (v := 0) hx hb dL_append_18 (by decide) ?_
  exact z_iret hx hb hr hlocks dL_append_19 hM (Nat.le_of_ble_eq_true rfl) (Nat.le_of_ble_eq_true rfl) rfl
set_option maxHeartbeats 4000000 in
set_option maxRecDepth 100000 in
theorem w_x_about1 (l : Launch) (G : zC) (hl0 : l.stackTraces = false) (o9 : Nat) (u0 u2 u3 u4 u5 u6 u7 : Value) (a : zGA) (h : Nat → Int32) (b : Nat → Nat → Int32) (k9 : Int32) (hc : k9 < 0 ∨ 5 < k9) (oa : Nat) (og : Nat → Int64) : zMetN l G yL_about wsL_about rmL_about [.ref o9, .int k9, .ref oa] ([(oa, .inl (G.2 5, 1, .inr (.inl og)))] ++ ([(o9, .inr (6, [u0, .ref a.1, u2, u3, u4, u5, u6, u7]))] ++ (gmW G a h b))) (some (.int 1)) ([(oa, .inl (G.2 5, 1, .inr (.inl og)))] ++ ([(o9, .inr (6, [u0, .ref a.1, u2, u3, u4, u5, u6, u7]))] ++ (gmW G a h b))) := by
  refine zMetN_of (cc := cL_about) (maxL := 4) (ret := (some .int)) (hh := [(0, 9, 12, 13)]) (by decide) rfl (Nat.le_of_ble_eq_true rfl) ?_
  intro p e s m below meth c A ls hx hb hr htb hml hown hts hK hA hE hN hTh hlocks hin hM hl
  have hown : s.vm.findClass RL = some m.cls := hown
  have hl : lv_has ls 4 [(0, .ref o9), (1, .int k9), (2, .ref oa)] := hl
  refine lv_aload_n hx hb dL_about_0 rfl (lv_at hl 2 rfl) ?_
  refine lv_iconst (v := 0) hx hb dL_about_1 (by decide) ?_
  refine lv_aload_n hx hb dL_about_2 rfl (lv_at hl 0 rfl) ?_
  refine lv_iload_n hx hb dL_about_3 rfl (lv_at hl 1 rfl) ?_
  refine z_callVT (As := [.int k9]) (rest := [.int 0, .ref oa]) (wc := ([(o9, .inr (6, [u0, .ref a.1, u2, u3, u4, u5, u6, u7]))] ++ (gmW G a h b))) (wr := [(oa, .inl (G.2 5, 1, .inr (.inl og)))]) ⟨hx, hb, hml, hown, hts⟩ (c_x_about1 l G hl0 o9 u0 u2 u3 u4 u5 u6 u7 a h b k9 hc) (cwV 1 hts gL_about_X6_about rfl rfl rfl (by decide +kernel) ⟨(Nat.le_of_ble_eq_true rfl), (Nat.le_of_ble_eq_true rfl)⟩) 6 rfl rfl rfl rfl hl.1 rfl (Nat.le_of_ble_eq_true rfl) dL_about_4 ⟨(Nat.le_of_ble_eq_true rfl), (Nat.le_of_ble_eq_true rfl)⟩ hK hE hTh hA hM List.perm_append_comm (fun qx9 ce H locs hM hce hcv hcl9 => ?_)
  refine vx_catch (own := RL) (name := "java/lang/IllegalArgumentException") (E := "java/lang/IllegalArgumentException") (ce := ce) hown [] ⟨0, 9, 12, 13⟩ [] (htb.trans rfl) (fun z h9 => by cases h9) rfl (by decide) (hts (.classLink RL 13 "java/lang/IllegalArgumentException") (by decide +kernel)) (va_Nw.use rfl (hTh.2 "java/lang/IllegalArgumentException" (List.mem_of_getElem? (i := 0) rfl))) hce hcv hcl9 ?_
  refine lv_astore_n (lv' := [(3, .ref qx9), (0, .ref o9), (1, .int k9), (2, .ref oa)]) hx hb dL_about_12 rfl hl (by decide) rfl (fun ls hl => ?_)
  refine lv_iconst (v := 1) hx hb dL_about_13 (by decide) ?_
  exact z_iret hx hb hr hlocks dL_about_14 hM (Nat.le_of_ble_eq_true rfl) (Nat.le_of_ble_eq_true rfl) rfl
set_option maxHeartbeats 4000000 in
set_option maxRecDepth 100000 in
theorem w_x_about0_0 (l : Launch) (G : zC) (o9 : Nat) (u0 u2 u3 u4 u5 u6 u7 : Value) (a : zGA) (h : Nat → Int32) (b : Nat → Nat → Int32) (hzh : zHz h) (oa : Nat) (og : Nat → Int64) : zMetN l G yL_about wsL_about rmL_about [.ref o9, .int 0, .ref oa] ([(oa, .inl (G.2 5, 1, .inr (.inl og)))] ++ ([(o9, .inr (6, [u0, .ref a.1, u2, u3, u4, u5, u6, u7]))] ++ (gmW G a h b))) (some (.int 0)) ([(oa, .inl (G.2 5, 1, .inr (.inl (vp_updL og 0 (Int32.toInt64 (h 0))))))] ++ ([(o9, .inr (6, [u0, .ref a.1, u2, u3, u4, u5, u6, u7]))] ++ (gmW G a h b))) := by
  refine zMetN_of (cc := cL_about) (maxL := 4) (ret := (some .int)) (hh := [(0, 9, 12, 13)]) (by decide) rfl (Nat.le_of_ble_eq_true rfl) ?_
  intro p e s m below meth c A ls hx hb hr htb hml hown hts hK hA hE hN hTh hlocks hin hM hl
  have hown : s.vm.findClass RL = some m.cls := hown
  have hl : lv_has ls 4 [(0, .ref o9), (1, .int 0), (2, .ref oa)] := hl
  refine lv_aload_n hx hb dL_about_0 rfl (lv_at hl 2 rfl) ?_
  refine lv_iconst (v := 0) hx hb dL_about_1 (by decide) ?_
  refine lv_aload_n hx hb dL_about_2 rfl (lv_at hl 0 rfl) ?_
  refine lv_iload_n hx hb dL_about_3 rfl (lv_at hl 1 rfl) ?_
  refine z_callV (As := [.int 0]) (rest := [.int 0, .ref oa]) (wc := ([(o9, .inr (6, [u0, .ref a.1, u2, u3, u4, u5, u6, u7]))] ++ (gmW G a h b))) (wr := [(oa, .inl (G.2 5, 1, .inr (.inl og)))]) (w1 := ([(o9, .inr (6, [u0, .ref a.1, u2, u3, u4, u5, u6, u7]))] ++ (gmW G a h b))) (ws' := [(oa, .inl (G.2 5, 1, .inr (.inl og)))] ++ ([(o9, .inr (6, [u0, .ref a.1, u2, u3, u4, u5, u6, u7]))] ++ (gmW G a h b))) ⟨hx, hb, hml, hown, hts⟩ (c_x_about0_0 l G o9 u0 u2 u3 u4 u5 u6 u7 a h b hzh) (cwV 1 hts gL_about_X6_about rfl rfl rfl (by decide +kernel) ⟨(Nat.le_of_ble_eq_true rfl), (Nat.le_of_ble_eq_true rfl)⟩) 6 rfl rfl rfl rfl hl.1 rfl (Nat.le_of_ble_eq_true rfl) dL_about_4 ⟨(Nat.le_of_ble_eq_true rfl), (Nat.le_of_ble_eq_true rfl)⟩ hK hE hA hM List.perm_append_comm List.perm_append_comm (fun H locs hM hz => ?_)
  refine lv_i2l (v := Int32.toInt64 (h 0)) hx hb dL_about_7 rfl ?_
  refine z_last (ws' := [(oa, .inl (G.2 5, 1, .inr (.inl (vp_updL og 0 (Int32.toInt64 (h 0))))))] ++ ([(o9, .inr (6, [u0, .ref a.1, u2, u3, u4, u5, u6, u7]))] ++ (gmW G a h b))) hx hb hK hM 0 rfl (vp_in_nI (n := 0) (by decide) (by decide)) dL_about_8 rfl (fun H locs hM => ?_)
  refine lv_goto (tgt := 15) hx hb dL_about_9 (by decide) ?_
  refine lv_iconst (v := 0) hx hb dL_about_15 (by decide) ?_
  exact z_iret hx hb hr hlocks dL_about_16 hM (Nat.le_of_ble_eq_true rfl) (Nat.le_of_ble_eq_true rfl) rfl
set_option maxHeartbeats 4000000 in
set_option maxRecDepth 100000 in
theorem w_x_about0_1 (l : Launch) (G : zC) (o9 : Nat) (u0 u2 u3 u4 u5 u6 u7 : Value) (a : zGA) (h : Nat → Int32) (b : Nat → Nat → Int32) (hzh : zHz h) (oa : Nat) (og : Nat → Int64) : zMetN l G yL_about wsL_about rmL_about [.ref o9, .int 1, .ref oa] ([(oa, .inl (G.2 5, 1, .inr (.inl og)))] ++ ([(o9, .inr (6, [u0, .ref a.1, u2, u3, u4, u5, u6, u7]))] ++ (gmW G a h b))) (some (.int 0)) ([(oa, .inl (G.2 5, 1, .inr (.inl (vp_updL og 0 (Int32.toInt64 (if h 4 = 0 then h 1 else -1))))))] ++ ([(o9, .inr (6, [u0, .ref a.1, u2, u3, u4, u5, u6, u7]))] ++ (gmW G a h b))) := by
  refine zMetN_of (cc := cL_about) (maxL := 4) (ret := (some .int)) (hh := [(0, 9, 12, 13)]) (by decide) rfl (Nat.le_of_ble_eq_true rfl) ?_
  intro p e s m below meth c A ls hx hb hr htb hml hown hts hK hA hE hN hTh hlocks hin hM hl
  have hown : s.vm.findClass RL = some m.cls := hown
  have hl : lv_has ls 4 [(0, .ref o9), (1, .int 1), (2, .ref oa)] := hl
  refine lv_aload_n hx hb dL_about_0 rfl (lv_at hl 2 rfl) ?_
  refine lv_iconst (v := 0) hx hb dL_about_1 (by decide) ?_
  refine lv_aload_n hx hb dL_about_2 rfl (lv_at hl 0 rfl) ?_
  refine lv_iload_n hx hb dL_about_3 rfl (lv_at hl 1 rfl) ?_
  refine z_callV (As := [.int 1]) (rest := [.int 0, .ref oa]) (wc := ([(o9, .inr (6, [u0, .ref a.1, u2, u3, u4, u5, u6, u7]))] ++ (gmW G a h b))) (wr := [(oa, .inl (G.2 5, 1, .inr (.inl og)))]) (w1 := ([(o9, .inr (6, [u0, .ref a.1, u2, u3, u4, u5, u6, u7]))] ++ (gmW G a h b))) (ws' := [(oa, .inl (G.2 5, 1, .inr (.inl og)))] ++ ([(o9, .inr (6, [u0, .ref a.1, u2, u3, u4, u5, u6, u7]))] ++ (gmW G a h b))) ⟨hx, hb, hml, hown, hts⟩ (c_x_about0_1 l G o9 u0 u2 u3 u4 u5 u6 u7 a h b hzh) (cwV 1 hts gL_about_X6_about rfl rfl rfl (by decide +kernel) ⟨(Nat.le_of_ble_eq_true rfl), (Nat.le_of_ble_eq_true rfl)⟩) 6 rfl rfl rfl rfl hl.1 rfl (Nat.le_of_ble_eq_true rfl) dL_about_4 ⟨(Nat.le_of_ble_eq_true rfl), (Nat.le_of_ble_eq_true rfl)⟩ hK hE hA hM List.perm_append_comm List.perm_append_comm (fun H locs hM hz => ?_)
  refine lv_i2l (v := Int32.toInt64 (if h 4 = 0 then h 1 else -1)) hx hb dL_about_7 rfl ?_
  refine z_last (ws' := [(oa, .inl (G.2 5, 1, .inr (.inl (vp_updL og 0 (Int32.toInt64 (if h 4 = 0 then h 1 else -1))))))] ++ ([(o9, .inr (6, [u0, .ref a.1, u2, u3, u4, u5, u6, u7]))] ++ (gmW G a h b))) hx hb hK hM 0 rfl (vp_in_nI (n := 0) (by decide) (by decide)) dL_about_8 rfl (fun H locs hM => ?_)
  refine lv_goto (tgt := 15) hx hb dL_about_9 (by decide) ?_
  refine lv_iconst (v := 0) hx hb dL_about_15 (by decide) ?_
  exact z_iret hx hb hr hlocks dL_about_16 hM (Nat.le_of_ble_eq_true rfl) (Nat.le_of_ble_eq_true rfl) rfl
set_option maxHeartbeats 4000000 in
set_option maxRecDepth 100000 in
theorem w_x_about0_2 (l : Launch) (G : zC) (o9 : Nat) (u0 u2 u3 u4 u5 u6 u7 : Value) (a : zGA) (h : Nat → Int32) (b : Nat → Nat → Int32) (hzh : zHz h) (oa : Nat) (og : Nat → Int64) : zMetN l G yL_about wsL_about rmL_about [.ref o9, .int 2, .ref oa] ([(oa, .inl (G.2 5, 1, .inr (.inl og)))] ++ ([(o9, .inr (6, [u0, .ref a.1, u2, u3, u4, u5, u6, u7]))] ++ (gmW G a h b))) (some (.int 0)) ([(oa, .inl (G.2 5, 1, .inr (.inl (vp_updL og 0 (Int32.toInt64 (h 2))))))] ++ ([(o9, .inr (6, [u0, .ref a.1, u2, u3, u4, u5, u6, u7]))] ++ (gmW G a h b))) := by
  refine zMetN_of (cc := cL_about) (maxL := 4) (ret := (some .int)) (hh := [(0, 9, 12, 13)]) (by decide) rfl (Nat.le_of_ble_eq_true rfl) ?_
  intro p e s m below meth c A ls hx hb hr htb hml hown hts hK hA hE hN hTh hlocks hin hM hl
  have hown : s.vm.findClass RL = some m.cls := hown
  have hl : lv_has ls 4 [(0, .ref o9), (1, .int 2), (2, .ref oa)] := hl
  refine lv_aload_n hx hb dL_about_0 rfl (lv_at hl 2 rfl) ?_
  refine lv_iconst (v := 0) hx hb dL_about_1 (by decide) ?_
  refine lv_aload_n hx hb dL_about_2 rfl (lv_at hl 0 rfl) ?_
  refine lv_iload_n hx hb dL_about_3 rfl (lv_at hl 1 rfl) ?_
  refine z_callV (As := [.int 2]) (rest := [.int 0, .ref oa]) (wc := ([(o9, .inr (6, [u0, .ref a.1, u2, u3, u4, u5, u6, u7]))] ++ (gmW G a h b))) (wr := [(oa, .inl (G.2 5, 1, .inr (.inl og)))]) (w1 := ([(o9, .inr (6, [u0, .ref a.1, u2, u3, u4, u5, u6, u7]))] ++ (gmW G a h b))) (ws' := [(oa, .inl (G.2 5, 1, .inr (.inl og)))] ++ ([(o9, .inr (6, [u0, .ref a.1, u2, u3, u4, u5, u6, u7]))] ++ (gmW G a h b))) ⟨hx, hb, hml, hown, hts⟩ (c_x_about0_2 l G o9 u0 u2 u3 u4 u5 u6 u7 a h b hzh) (cwV 1 hts gL_about_X6_about rfl rfl rfl (by decide +kernel) ⟨(Nat.le_of_ble_eq_true rfl), (Nat.le_of_ble_eq_true rfl)⟩) 6 rfl rfl rfl rfl hl.1 rfl (Nat.le_of_ble_eq_true rfl) dL_about_4 ⟨(Nat.le_of_ble_eq_true rfl), (Nat.le_of_ble_eq_true rfl)⟩ hK hE hA hM List.perm_append_comm List.perm_append_comm (fun H locs hM hz => ?_)
  refine lv_i2l (v := Int32.toInt64 (h 2)) hx hb dL_about_7 rfl ?_
  refine z_last (ws' := [(oa, .inl (G.2 5, 1, .inr (.inl (vp_updL og 0 (Int32.toInt64 (h 2))))))] ++ ([(o9, .inr (6, [u0, .ref a.1, u2, u3, u4, u5, u6, u7]))] ++ (gmW G a h b))) hx hb hK hM 0 rfl (vp_in_nI (n := 0) (by decide) (by decide)) dL_about_8 rfl (fun H locs hM => ?_)
  refine lv_goto (tgt := 15) hx hb dL_about_9 (by decide) ?_
  refine lv_iconst (v := 0) hx hb dL_about_15 (by decide) ?_
  exact z_iret hx hb hr hlocks dL_about_16 hM (Nat.le_of_ble_eq_true rfl) (Nat.le_of_ble_eq_true rfl) rfl
set_option maxHeartbeats 4000000 in
set_option maxRecDepth 100000 in
theorem w_x_about0_3 (l : Launch) (G : zC) (o9 : Nat) (u0 u2 u3 u4 u5 u6 u7 : Value) (a : zGA) (h : Nat → Int32) (b : Nat → Nat → Int32) (hzh : zHz h) (oa : Nat) (og : Nat → Int64) : zMetN l G yL_about wsL_about rmL_about [.ref o9, .int 3, .ref oa] ([(oa, .inl (G.2 5, 1, .inr (.inl og)))] ++ ([(o9, .inr (6, [u0, .ref a.1, u2, u3, u4, u5, u6, u7]))] ++ (gmW G a h b))) (some (.int 0)) ([(oa, .inl (G.2 5, 1, .inr (.inl (vp_updL og 0 (Int32.toInt64 (h 3))))))] ++ ([(o9, .inr (6, [u0, .ref a.1, u2, u3, u4, u5, u6, u7]))] ++ (gmW G a h b))) := by
  refine zMetN_of (cc := cL_about) (maxL := 4) (ret := (some .int)) (hh := [(0, 9, 12, 13)]) (by decide) rfl (Nat.le_of_ble_eq_true rfl) ?_
  intro p e s m below meth c A ls hx hb hr htb hml hown hts hK hA hE hN hTh hlocks hin hM hl
  have hown : s.vm.findClass RL = some m.cls := hown
  have hl : lv_has ls 4 [(0, .ref o9), (1, .int 3), (2, .ref oa)] := hl
  refine lv_aload_n hx hb dL_about_0 rfl (lv_at hl 2 rfl) ?_
  refine lv_iconst (v := 0) hx hb dL_about_1 (by decide) ?_
  refine lv_aload_n hx hb dL_about_2 rfl (lv_at hl 0 rfl) ?_
  refine lv_iload_n hx hb dL_about_3 rfl (lv_at hl 1 rfl) ?_
  refine z_callV (As := [.int 3]) (rest := [.int 0, .ref oa]) (wc := ([(o9, .inr (6, [u0, .ref a.1, u2, u3, u4, u5, u6, u7]))] ++ (gmW G a h b))) (wr := [(oa, .inl (G.2 5, 1, .inr (.inl og)))]) (w1 := ([(o9, .inr (6, [u0, .ref a.1, u2, u3, u4, u5, u6, u7]))] ++ (gmW G a h b))) (ws' := [(oa, .inl (G.2 5, 1, .inr (.inl og)))] ++ ([(o9, .inr (6, [u0, .ref a.1, u2, u3, u4, u5, u6, u7]))] ++ (gmW G a h b))) ⟨hx, hb, hml, hown, hts⟩ (c_x_about0_3 l G o9 u0 u2 u3 u4 u5 u6 u7 a h b hzh) (cwV 1 hts gL_about_X6_about rfl rfl rfl (by decide +kernel) ⟨(Nat.le_of_ble_eq_true rfl), (Nat.le_of_ble_eq_true rfl)⟩) 6 rfl rfl rfl rfl hl.1 rfl (Nat.le_of_ble_eq_true rfl) dL_about_4 ⟨(Nat.le_of_ble_eq_true rfl), (Nat.le_of_ble_eq_true rfl)⟩ hK hE hA hM List.perm_append_comm List.perm_append_comm (fun H locs hM hz => ?_)
  refine lv_i2l (v := Int32.toInt64 (h 3)) hx hb dL_about_7 rfl ?_
  refine z_last (ws' := [(oa, .inl (G.2 5, 1, .inr (.inl (vp_updL og 0 (Int32.toInt64 (h 3))))))] ++ ([(o9, .inr (6, [u0, .ref a.1, u2, u3, u4, u5, u6, u7]))] ++ (gmW G a h b))) hx hb hK hM 0 rfl (vp_in_nI (n := 0) (by decide) (by decide)) dL_about_8 rfl (fun H locs hM => ?_)
  refine lv_goto (tgt := 15) hx hb dL_about_9 (by decide) ?_
  refine lv_iconst (v := 0) hx hb dL_about_15 (by decide) ?_
  exact z_iret hx hb hr hlocks dL_about_16 hM (Nat.le_of_ble_eq_true rfl) (Nat.le_of_ble_eq_true rfl) rfl
set_option maxHeartbeats 4000000 in
set_option maxRecDepth 100000 in
theorem w_x_about0_4 (l : Launch) (G : zC) (o9 : Nat) (u0 u2 u3 u4 u5 u6 u7 : Value) (a : zGA) (h : Nat → Int32) (b : Nat → Nat → Int32) (hzh : zHz h) (oa : Nat) (og : Nat → Int64) : zMetN l G yL_about wsL_about rmL_about [.ref o9, .int 4, .ref oa] ([(oa, .inl (G.2 5, 1, .inr (.inl og)))] ++ ([(o9, .inr (6, [u0, .ref a.1, u2, u3, u4, u5, u6, u7]))] ++ (gmW G a h b))) (some (.int 0)) ([(oa, .inl (G.2 5, 1, .inr (.inl (vp_updL og 0 (Int32.toInt64 (h 4))))))] ++ ([(o9, .inr (6, [u0, .ref a.1, u2, u3, u4, u5, u6, u7]))] ++ (gmW G a h b))) := by
  refine zMetN_of (cc := cL_about) (maxL := 4) (ret := (some .int)) (hh := [(0, 9, 12, 13)]) (by decide) rfl (Nat.le_of_ble_eq_true rfl) ?_
  intro p e s m below meth c A ls hx hb hr htb hml hown hts hK hA hE hN hTh hlocks hin hM hl
  have hown : s.vm.findClass RL = some m.cls := hown
  have hl : lv_has ls 4 [(0, .ref o9), (1, .int 4), (2, .ref oa)] := hl
  refine lv_aload_n hx hb dL_about_0 rfl (lv_at hl 2 rfl) ?_
  refine lv_iconst (v := 0) hx hb dL_about_1 (by decide) ?_
  refine lv_aload_n hx hb dL_about_2 rfl (lv_at hl 0 rfl) ?_
  refine lv_iload_n hx hb dL_about_3 rfl (lv_at hl 1 rfl) ?_
  refine z_callV (As := [.int 4]) (rest := [.int 0, .ref oa]) (wc := ([(o9, .inr (6, [u0, .ref a.1, u2, u3, u4, u5, u6, u7]))] ++ (gmW G a h b))) (wr := [(oa, .inl (G.2 5, 1, .inr (.inl og)))]) (w1 := ([(o9, .inr (6, [u0, .ref a.1, u2, u3, u4, u5, u6, u7]))] ++ (gmW G a h b))) (ws' := [(oa, .inl (G.2 5, 1, .inr (.inl og)))] ++ ([(o9, .inr (6, [u0, .ref a.1, u2, u3, u4, u5, u6, u7]))] ++ (gmW G a h b))) ⟨hx, hb, hml, hown, hts⟩ (c_x_about0_4 l G o9 u0 u2 u3 u4 u5 u6 u7 a h b hzh) (cwV 1 hts gL_about_X6_about rfl rfl rfl (by decide +kernel) ⟨(Nat.le_of_ble_eq_true rfl), (Nat.le_of_ble_eq_true rfl)⟩) 6 rfl rfl rfl rfl hl.1 rfl (Nat.le_of_ble_eq_true rfl) dL_about_4 ⟨(Nat.le_of_ble_eq_true rfl), (Nat.le_of_ble_eq_true rfl)⟩ hK hE hA hM List.perm_append_comm List.perm_append_comm (fun H locs hM hz => ?_)
  refine lv_i2l (v := Int32.toInt64 (h 4)) hx hb dL_about_7 rfl ?_
  refine z_last (ws' := [(oa, .inl (G.2 5, 1, .inr (.inl (vp_updL og 0 (Int32.toInt64 (h 4))))))] ++ ([(o9, .inr (6, [u0, .ref a.1, u2, u3, u4, u5, u6, u7]))] ++ (gmW G a h b))) hx hb hK hM 0 rfl (vp_in_nI (n := 0) (by decide) (by decide)) dL_about_8 rfl (fun H locs hM => ?_)
  refine lv_goto (tgt := 15) hx hb dL_about_9 (by decide) ?_
  refine lv_iconst (v := 0) hx hb dL_about_15 (by decide) ?_
  exact z_iret hx hb hr hlocks dL_about_16 hM (Nat.le_of_ble_eq_true rfl) (Nat.le_of_ble_eq_true rfl) rfl
set_option maxHeartbeats 4000000 in
set_option maxRecDepth 100000 in
theorem w_x_about0_5 (l : Launch) (G : zC) (o9 : Nat) (u0 u2 u3 u4 u5 u6 u7 : Value) (a : zGA) (h : Nat → Int32) (b : Nat → Nat → Int32) (hzh : zHz h) (oa : Nat) (og : Nat → Int64) : zMetN l G yL_about wsL_about rmL_about [.ref o9, .int 5, .ref oa] ([(oa, .inl (G.2 5, 1, .inr (.inl og)))] ++ ([(o9, .inr (6, [u0, .ref a.1, u2, u3, u4, u5, u6, u7]))] ++ (gmW G a h b))) (some (.int 0)) ([(oa, .inl (G.2 5, 1, .inr (.inl (vp_updL og 0 (Int32.toInt64 (h 5))))))] ++ ([(o9, .inr (6, [u0, .ref a.1, u2, u3, u4, u5, u6, u7]))] ++ (gmW G a h b))) := by
  refine zMetN_of (cc := cL_about) (maxL := 4) (ret := (some .int)) (hh := [(0, 9, 12, 13)]) (by decide) rfl (Nat.le_of_ble_eq_true rfl) ?_
  intro p e s m below meth c A ls hx hb hr htb hml hown hts hK hA hE hN hTh hlocks hin hM hl
  have hown : s.vm.findClass RL = some m.cls := hown
  have hl : lv_has ls 4 [(0, .ref o9), (1, .int 5), (2, .ref oa)] := hl
  refine lv_aload_n hx hb dL_about_0 rfl (lv_at hl 2 rfl) ?_
  refine lv_iconst (v := 0) hx hb dL_about_1 (by decide) ?_
  refine lv_aload_n hx hb dL_about_2 rfl (lv_at hl 0 rfl) ?_
  refine lv_iload_n hx hb dL_about_3 rfl (lv_at hl 1 rfl) ?_
  refine z_callV (As := [.int 5]) (rest := [.int 0, .ref oa]) (wc := ([(o9, .inr (6, [u0, .ref a.1, u2, u3, u4, u5, u6, u7]))] ++ (gmW G a h b))) (wr := [(oa, .inl (G.2 5, 1, .inr (.inl og)))]) (w1 := ([(o9, .inr (6, [u0, .ref a.1, u2, u3, u4, u5, u6, u7]))] ++ (gmW G a h b))) (ws' := [(oa, .inl (G.2 5, 1, .inr (.inl og)))] ++ ([(o9, .inr (6, [u0, .ref a.1, u2, u3, u4, u5, u6, u7]))] ++ (gmW G a h b))) ⟨hx, hb, hml, hown, hts⟩ (c_x_about0_5 l G o9 u0 u2 u3 u4 u5 u6 u7 a h b hzh) (cwV 1 hts gL_about_X6_about rfl rfl rfl (by decide +kernel) ⟨(Nat.le_of_ble_eq_true rfl), (Nat.le_of_ble_eq_true rfl)⟩) 6 rfl rfl rfl rfl hl.1 rfl (Nat.le_of_ble_eq_true rfl) dL_about_4 ⟨(Nat.le_of_ble_eq_true rfl), (Nat.le_of_ble_eq_true rfl)⟩ hK hE hA hM List.perm_append_comm List.perm_append_comm (fun H locs hM hz => ?_)
  refine lv_i2l (v := Int32.toInt64 (h 5)) hx hb dL_about_7 rfl ?_
  refine z_last (ws' := [(oa, .inl (G.2 5, 1, .inr (.inl (vp_updL og 0 (Int32.toInt64 (h 5))))))] ++ ([(o9, .inr (6, [u0, .ref a.1, u2, u3, u4, u5, u6, u7]))] ++ (gmW G a h b))) hx hb hK hM 0 rfl (vp_in_nI (n := 0) (by decide) (by decide)) dL_about_8 rfl (fun H locs hM => ?_)
  refine lv_goto (tgt := 15) hx hb dL_about_9 (by decide) ?_
  refine lv_iconst (v := 0) hx hb dL_about_15 (by decide) ?_
  exact z_iret hx hb hr hlocks dL_about_16 hM (Nat.le_of_ble_eq_true rfl) (Nat.le_of_ble_eq_true rfl) rfl
set_option maxHeartbeats 4000000 in
set_option maxRecDepth 100000 in
theorem w_x_setting1 (l : Launch) (G : zC) (hl0 : l.stackTraces = false) (o9 : Nat) (u0 u2 u3 u4 u5 u6 u7 : Value) (a : zGA) (h : Nat → Int32) (b : Nat → Nat → Int32) (k9 : Int32) (hc : zSe k9 = false) (oa : Nat) (og : Nat → Int64) : zMetN l G yL_setting wsL_setting rmL_setting [.ref o9, .int k9, .ref oa] ([(oa, .inl (G.2 5, 1, .inr (.inl og)))] ++ ([(o9, .inr (6, [u0, .ref a.1, u2, u3, u4, u5, u6, u7]))] ++ (gmW G a h b))) (some (.int 1)) ([(oa, .inl (G.2 5, 1, .inr (.inl og)))] ++ ([(o9, .inr (6, [u0, .ref a.1, u2, u3, u4, u5, u6, u7]))] ++ (gmW G a h b))) := by
  refine zMetN_of (cc := cL_setting) (maxL := 4) (ret := (some .int)) (hh := [(0, 9, 12, 13)]) (by decide) rfl (Nat.le_of_ble_eq_true rfl) ?_
  intro p e s m below meth c A ls hx hb hr htb hml hown hts hK hA hE hN hTh hlocks hin hM hl
  have hown : s.vm.findClass RL = some m.cls := hown
  have hl : lv_has ls 4 [(0, .ref o9), (1, .int k9), (2, .ref oa)] := hl
  refine lv_aload_n hx hb dL_setting_0 rfl (lv_at hl 2 rfl) ?_
  refine lv_iconst (v := 0) hx hb dL_setting_1 (by decide) ?_
  refine lv_aload_n hx hb dL_setting_2 rfl (lv_at hl 0 rfl) ?_
  refine lv_iload_n hx hb dL_setting_3 rfl (lv_at hl 1 rfl) ?_
  refine z_callVT (As := [.int k9]) (rest := [.int 0, .ref oa]) (wc := ([(o9, .inr (6, [u0, .ref a.1, u2, u3, u4, u5, u6, u7]))] ++ (gmW G a h b))) (wr := [(oa, .inl (G.2 5, 1, .inr (.inl og)))]) ⟨hx, hb, hml, hown, hts⟩ (c_x_setting1 l G hl0 o9 u0 u2 u3 u4 u5 u6 u7 a h b k9 hc) (cwV 1 hts gL_setting_X6_setting rfl rfl rfl (by decide +kernel) ⟨(Nat.le_of_ble_eq_true rfl), (Nat.le_of_ble_eq_true rfl)⟩) 6 rfl rfl rfl rfl hl.1 rfl (Nat.le_of_ble_eq_true rfl) dL_setting_4 ⟨(Nat.le_of_ble_eq_true rfl), (Nat.le_of_ble_eq_true rfl)⟩ hK hE hTh hA hM List.perm_append_comm (fun qx9 ce H locs hM hce hcv hcl9 => ?_)
  refine vx_catch (own := RL) (name := "java/lang/IllegalArgumentException") (E := "java/lang/IllegalArgumentException") (ce := ce) hown [] ⟨0, 9, 12, 13⟩ [] (htb.trans rfl) (fun z h9 => by cases h9) rfl (by decide) (hts (.classLink RL 13 "java/lang/IllegalArgumentException") (by decide +kernel)) (va_Nw.use rfl (hTh.2 "java/lang/IllegalArgumentException" (List.mem_of_getElem? (i := 0) rfl))) hce hcv hcl9 ?_
  refine lv_astore_n (lv' := [(3, .ref qx9), (0, .ref o9), (1, .int k9), (2, .ref oa)]) hx hb dL_setting_12 rfl hl (by decide) rfl (fun ls hl => ?_)
  refine lv_iconst (v := 1) hx hb dL_setting_13 (by decide) ?_
  exact z_iret hx hb hr hlocks dL_setting_14 hM (Nat.le_of_ble_eq_true rfl) (Nat.le_of_ble_eq_true rfl) rfl
set_option maxHeartbeats 4000000 in
set_option maxRecDepth 100000 in
theorem w_x_setting0 (l : Launch) (G : zC) (o9 : Nat) (u0 u2 u3 u4 u5 u6 u7 : Value) (a : zGA) (h : Nat → Int32) (b : Nat → Nat → Int32) (j : Nat) (hj : j < 3) (oa : Nat) (og : Nat → Int64) : zMetN l G yL_setting wsL_setting rmL_setting [.ref o9, .int (nI j), .ref oa] ([(oa, .inl (G.2 5, 1, .inr (.inl og)))] ++ ([(o9, .inr (6, [u0, .ref a.1, u2, u3, u4, u5, u6, u7]))] ++ (gmW G a h b))) (some (.int 0)) ([(oa, .inl (G.2 5, 1, .inr (.inl (vp_updL og 0 (Int32.toInt64 (h (6 + j)))))))] ++ ([(o9, .inr (6, [u0, .ref a.1, u2, u3, u4, u5, u6, u7]))] ++ (gmW G a h b))) := by
  refine zMetN_of (cc := cL_setting) (maxL := 4) (ret := (some .int)) (hh := [(0, 9, 12, 13)]) (by decide) rfl (Nat.le_of_ble_eq_true rfl) ?_
  intro p e s m below meth c A ls hx hb hr htb hml hown hts hK hA hE hN hTh hlocks hin hM hl
  have hown : s.vm.findClass RL = some m.cls := hown
  have hl : lv_has ls 4 [(0, .ref o9), (1, .int (nI j)), (2, .ref oa)] := hl
  refine lv_aload_n hx hb dL_setting_0 rfl (lv_at hl 2 rfl) ?_
  refine lv_iconst (v := 0) hx hb dL_setting_1 (by decide) ?_
  refine lv_aload_n hx hb dL_setting_2 rfl (lv_at hl 0 rfl) ?_
  refine lv_iload_n hx hb dL_setting_3 rfl (lv_at hl 1 rfl) ?_
  refine z_callV (As := [.int (nI j)]) (rest := [.int 0, .ref oa]) (wc := ([(o9, .inr (6, [u0, .ref a.1, u2, u3, u4, u5, u6, u7]))] ++ (gmW G a h b))) (wr := [(oa, .inl (G.2 5, 1, .inr (.inl og)))]) (w1 := ([(o9, .inr (6, [u0, .ref a.1, u2, u3, u4, u5, u6, u7]))] ++ (gmW G a h b))) (ws' := [(oa, .inl (G.2 5, 1, .inr (.inl og)))] ++ ([(o9, .inr (6, [u0, .ref a.1, u2, u3, u4, u5, u6, u7]))] ++ (gmW G a h b))) ⟨hx, hb, hml, hown, hts⟩ (c_x_setting0 l G o9 u0 u2 u3 u4 u5 u6 u7 a h b j hj) (cwV 1 hts gL_setting_X6_setting rfl rfl rfl (by decide +kernel) ⟨(Nat.le_of_ble_eq_true rfl), (Nat.le_of_ble_eq_true rfl)⟩) 6 rfl rfl rfl rfl hl.1 rfl (Nat.le_of_ble_eq_true rfl) dL_setting_4 ⟨(Nat.le_of_ble_eq_true rfl), (Nat.le_of_ble_eq_true rfl)⟩ hK hE hA hM List.perm_append_comm List.perm_append_comm (fun H locs hM hz => ?_)
  refine lv_i2l (v := Int32.toInt64 (h (6 + j))) hx hb dL_setting_7 rfl ?_
  refine z_last (ws' := [(oa, .inl (G.2 5, 1, .inr (.inl (vp_updL og 0 (Int32.toInt64 (h (6 + j)))))))] ++ ([(o9, .inr (6, [u0, .ref a.1, u2, u3, u4, u5, u6, u7]))] ++ (gmW G a h b))) hx hb hK hM 0 rfl (vp_in_nI (n := 0) (by decide) (by decide)) dL_setting_8 rfl (fun H locs hM => ?_)
  refine lv_goto (tgt := 15) hx hb dL_setting_9 (by decide) ?_
  refine lv_iconst (v := 0) hx hb dL_setting_15 (by decide) ?_
  exact z_iret hx hb hr hlocks dL_setting_16 hM (Nat.le_of_ble_eq_true rfl) (Nat.le_of_ble_eq_true rfl) rfl
set_option maxHeartbeats 4000000 in
set_option maxRecDepth 100000 in
theorem w_x_tile1 (l : Launch) (G : zC) (hl0 : l.stackTraces = false) (o9 : Nat) (u0 u2 u3 u4 u5 u6 u7 : Value) (a : zGA) (h : Nat → Int32) (b : Nat → Nat → Int32) (i n9 w9 : Int32) (hc : (zHp h i && zPl n9) = false) (oa : Nat) (og : Nat → Int64) : zMetN l G yL_tile wsL_tile rmL_tile [.ref o9, .int i, .int n9, .int w9, .ref oa] ([(oa, .inl (G.2 5, 1, .inr (.inl og)))] ++ ([(o9, .inr (6, [u0, .ref a.1, u2, u3, u4, u5, u6, u7]))] ++ (gmW G a h b))) (some (.int 1)) ([(oa, .inl (G.2 5, 1, .inr (.inl og)))] ++ ([(o9, .inr (6, [u0, .ref a.1, u2, u3, u4, u5, u6, u7]))] ++ (gmW G a h b))) := by
  refine zMetN_of (cc := cL_tile) (maxL := 6) (ret := (some .int)) (hh := [(0, 12, 15, 28), (0, 12, 19, 13)]) (by decide) rfl (Nat.le_of_ble_eq_true rfl) ?_
  intro p e s m below meth c A ls hx hb hr htb hml hown hts hK hA hE hN hTh hlocks hin hM hl
  have hown : s.vm.findClass RL = some m.cls := hown
  have hl : lv_has ls 6 [(0, .ref o9), (1, .int i), (2, .int n9), (3, .int w9), (4, .ref oa)] := hl
  refine lv_aload hx hb dL_tile_0 (lv_at hl 4 rfl) ?_
  refine lv_iconst (v := 0) hx hb dL_tile_2 (by decide) ?_
  refine lv_aload_n hx hb dL_tile_3 rfl (lv_at hl 0 rfl) ?_
  refine lv_iload_n hx hb dL_tile_4 rfl (lv_at hl 1 rfl) ?_
  refine lv_iload_n hx hb dL_tile_5 rfl (lv_at hl 2 rfl) ?_
  refine lv_iload_n hx hb dL_tile_6 rfl (lv_at hl 3 rfl) ?_
  refine z_callVT (As := [.int i, .int n9, .int w9]) (rest := [.int 0, .ref oa]) (wc := ([(o9, .inr (6, [u0, .ref a.1, u2, u3, u4, u5, u6, u7]))] ++ (gmW G a h b))) (wr := [(oa, .inl (G.2 5, 1, .inr (.inl og)))]) ⟨hx, hb, hml, hown, hts⟩ (c_x_tile1 l G hl0 o9 u0 u2 u3 u4 u5 u6 u7 a h b i n9 w9 hc) (cwV 3 hts gL_tile_X6_tile rfl rfl rfl (by decide +kernel) ⟨(Nat.le_of_ble_eq_true rfl), (Nat.le_of_ble_eq_true rfl)⟩) 6 rfl rfl rfl rfl hl.1 rfl (Nat.le_of_ble_eq_true rfl) dL_tile_7 ⟨(Nat.le_of_ble_eq_true rfl), (Nat.le_of_ble_eq_true rfl)⟩ hK hE hTh hA hM List.perm_append_comm (fun qx9 ce H locs hM hce hcv hcl9 => ?_)
  refine vx_catch (own := RL) (name := "java/lang/IndexOutOfBoundsException") (E := "java/lang/IndexOutOfBoundsException") (ce := ce) hown [] ⟨0, 12, 15, 28⟩ [⟨0, 12, 19, 13⟩] (htb.trans rfl) (fun z h9 => by cases h9) rfl (by decide) (hts (.classLink RL 28 "java/lang/IndexOutOfBoundsException") (by decide +kernel)) (va_Nw.use rfl (hTh.2 "java/lang/IndexOutOfBoundsException" (List.mem_of_getElem? (i := 2) rfl))) hce hcv hcl9 ?_
  refine lv_astore (lv' := [(5, .ref qx9), (0, .ref o9), (1, .int i), (2, .int n9), (3, .int w9), (4, .ref oa)]) hx hb dL_tile_15 hl (by decide) rfl (fun ls hl => ?_)
  refine lv_iconst (v := 1) hx hb dL_tile_17 (by decide) ?_
  exact z_iret hx hb hr hlocks dL_tile_18 hM (Nat.le_of_ble_eq_true rfl) (Nat.le_of_ble_eq_true rfl) rfl
set_option maxHeartbeats 4000000 in
set_option maxRecDepth 100000 in
theorem w_x_tile2 (l : Launch) (G : zC) (hl0 : l.stackTraces = false) (o9 : Nat) (u0 u2 u3 u4 u5 u6 u7 : Value) (a : zGA) (h : Nat → Int32) (b : Nat → Nat → Int32) (P t S e0 : Nat) (hG : zGs h b P t S e0) (o : Nat) (ho : o < P) (n9 w9 : Int32) (hn : zPl n9 = true) (hc : w9 < 0 ∨ 2 < w9) (oa : Nat) (og : Nat → Int64) : zMetN l G yL_tile wsL_tile rmL_tile [.ref o9, .int (nI o), .int n9, .int w9, .ref oa] ([(oa, .inl (G.2 5, 1, .inr (.inl og)))] ++ ([(o9, .inr (6, [u0, .ref a.1, u2, u3, u4, u5, u6, u7]))] ++ (gmW G a h b))) (some (.int 2)) ([(oa, .inl (G.2 5, 1, .inr (.inl og)))] ++ ([(o9, .inr (6, [u0, .ref a.1, u2, u3, u4, u5, u6, u7]))] ++ (gmW G a h b))) := by
  refine zMetN_of (cc := cL_tile) (maxL := 6) (ret := (some .int)) (hh := [(0, 12, 15, 28), (0, 12, 19, 13)]) (by decide) rfl (Nat.le_of_ble_eq_true rfl) ?_
  intro p e s m below meth c A ls hx hb hr htb hml hown hts hK hA hE hN hTh hlocks hin hM hl
  have hown : s.vm.findClass RL = some m.cls := hown
  have hl : lv_has ls 6 [(0, .ref o9), (1, .int (nI o)), (2, .int n9), (3, .int w9), (4, .ref oa)] := hl
  refine lv_aload hx hb dL_tile_0 (lv_at hl 4 rfl) ?_
  refine lv_iconst (v := 0) hx hb dL_tile_2 (by decide) ?_
  refine lv_aload_n hx hb dL_tile_3 rfl (lv_at hl 0 rfl) ?_
  refine lv_iload_n hx hb dL_tile_4 rfl (lv_at hl 1 rfl) ?_
  refine lv_iload_n hx hb dL_tile_5 rfl (lv_at hl 2 rfl) ?_
  refine lv_iload_n hx hb dL_tile_6 rfl (lv_at hl 3 rfl) ?_
  refine z_callVT (As := [.int (nI o), .int n9, .int w9]) (rest := [.int 0, .ref oa]) (wc := ([(o9, .inr (6, [u0, .ref a.1, u2, u3, u4, u5, u6, u7]))] ++ (gmW G a h b))) (wr := [(oa, .inl (G.2 5, 1, .inr (.inl og)))]) ⟨hx, hb, hml, hown, hts⟩ (c_x_tile2 l G hl0 o9 u0 u2 u3 u4 u5 u6 u7 a h b P t S e0 hG o ho n9 w9 hn hc) (cwV 3 hts gL_tile_X6_tile rfl rfl rfl (by decide +kernel) ⟨(Nat.le_of_ble_eq_true rfl), (Nat.le_of_ble_eq_true rfl)⟩) 6 rfl rfl rfl rfl hl.1 rfl (Nat.le_of_ble_eq_true rfl) dL_tile_7 ⟨(Nat.le_of_ble_eq_true rfl), (Nat.le_of_ble_eq_true rfl)⟩ hK hE hTh hA hM List.perm_append_comm (fun qx9 ce H locs hM hce hcv hcl9 => ?_)
  refine vx_catch (own := RL) (name := "java/lang/IllegalArgumentException") (E := "java/lang/IllegalArgumentException") (ce := ce) hown [⟨0, 12, 15, 28⟩] ⟨0, 12, 19, 13⟩ [] (htb.trans rfl) (fun z h9 => by cases List.mem_singleton.mp h9; exact Or.inr ⟨by decide, "java/lang/IndexOutOfBoundsException", hts (.classLink RL 28 "java/lang/IndexOutOfBoundsException") (by decide +kernel), hN ("java/lang/IllegalArgumentException", "java/lang/IndexOutOfBoundsException") (List.mem_of_getElem? (i := 1) rfl)⟩) rfl (by decide) (hts (.classLink RL 13 "java/lang/IllegalArgumentException") (by decide +kernel)) (va_Nw.use rfl (hTh.2 "java/lang/IllegalArgumentException" (List.mem_of_getElem? (i := 0) rfl))) hce hcv hcl9 ?_
  refine lv_astore (lv' := [(5, .ref qx9), (0, .ref o9), (1, .int (nI o)), (2, .int n9), (3, .int w9), (4, .ref oa)]) hx hb dL_tile_19 hl (by decide) rfl (fun ls hl => ?_)
  refine lv_iconst (v := 2) hx hb dL_tile_21 (by decide) ?_
  exact z_iret hx hb hr hlocks dL_tile_22 hM (Nat.le_of_ble_eq_true rfl) (Nat.le_of_ble_eq_true rfl) rfl
set_option maxHeartbeats 4000000 in
set_option maxRecDepth 100000 in
theorem w_x_tile0_0 (l : Launch) (G : zC) (o9 : Nat) (u0 u2 u3 u4 u5 u6 u7 : Value) (a : zGA) (h : Nat → Int32) (b : Nat → Nat → Int32) (P t S e0 : Nat) (hG : zGs h b P t S e0) (o : Nat) (ho : o < P) (j : Nat) (hj : j < 9) (oa : Nat) (og : Nat → Int64) : zMetN l G yL_tile wsL_tile rmL_tile [.ref o9, .int (nI o), .int (nI j), .int 0, .ref oa] ([(oa, .inl (G.2 5, 1, .inr (.inl og)))] ++ ([(o9, .inr (6, [u0, .ref a.1, u2, u3, u4, u5, u6, u7]))] ++ (gmW G a h b))) (some (.int 0)) ([(oa, .inl (G.2 5, 1, .inr (.inl (vp_updL og 0 (Int32.toInt64 (b o j))))))] ++ ([(o9, .inr (6, [u0, .ref a.1, u2, u3, u4, u5, u6, u7]))] ++ (gmW G a h b))) := by
  refine zMetN_of (cc := cL_tile) (maxL := 6) (ret := (some .int)) (hh := [(0, 12, 15, 28), (0, 12, 19, 13)]) (by decide) rfl (Nat.le_of_ble_eq_true rfl) ?_
  intro p e s m below meth c A ls hx hb hr htb hml hown hts hK hA hE hN hTh hlocks hin hM hl
  have hown : s.vm.findClass RL = some m.cls := hown
  have hl : lv_has ls 6 [(0, .ref o9), (1, .int (nI o)), (2, .int (nI j)), (3, .int 0), (4, .ref oa)] := hl
  refine lv_aload hx hb dL_tile_0 (lv_at hl 4 rfl) ?_
  refine lv_iconst (v := 0) hx hb dL_tile_2 (by decide) ?_
  refine lv_aload_n hx hb dL_tile_3 rfl (lv_at hl 0 rfl) ?_
  refine lv_iload_n hx hb dL_tile_4 rfl (lv_at hl 1 rfl) ?_
  refine lv_iload_n hx hb dL_tile_5 rfl (lv_at hl 2 rfl) ?_
  refine lv_iload_n hx hb dL_tile_6 rfl (lv_at hl 3 rfl) ?_
  refine z_callV (As := [.int (nI o), .int (nI j), .int 0]) (rest := [.int 0, .ref oa]) (wc := ([(o9, .inr (6, [u0, .ref a.1, u2, u3, u4, u5, u6, u7]))] ++ (gmW G a h b))) (wr := [(oa, .inl (G.2 5, 1, .inr (.inl og)))]) (w1 := ([(o9, .inr (6, [u0, .ref a.1, u2, u3, u4, u5, u6, u7]))] ++ (gmW G a h b))) (ws' := [(oa, .inl (G.2 5, 1, .inr (.inl og)))] ++ ([(o9, .inr (6, [u0, .ref a.1, u2, u3, u4, u5, u6, u7]))] ++ (gmW G a h b))) ⟨hx, hb, hml, hown, hts⟩ (c_x_tile0_0 l G o9 u0 u2 u3 u4 u5 u6 u7 a h b P t S e0 hG o ho j hj) (cwV 3 hts gL_tile_X6_tile rfl rfl rfl (by decide +kernel) ⟨(Nat.le_of_ble_eq_true rfl), (Nat.le_of_ble_eq_true rfl)⟩) 6 rfl rfl rfl rfl hl.1 rfl (Nat.le_of_ble_eq_true rfl) dL_tile_7 ⟨(Nat.le_of_ble_eq_true rfl), (Nat.le_of_ble_eq_true rfl)⟩ hK hE hA hM List.perm_append_comm List.perm_append_comm (fun H locs hM hz => ?_)
  refine lv_i2l (v := Int32.toInt64 (b o j)) hx hb dL_tile_10 rfl ?_
  refine z_last (ws' := [(oa, .inl (G.2 5, 1, .inr (.inl (vp_updL og 0 (Int32.toInt64 (b o j))))))] ++ ([(o9, .inr (6, [u0, .ref a.1, u2, u3, u4, u5, u6, u7]))] ++ (gmW G a h b))) hx hb hK hM 0 rfl (vp_in_nI (n := 0) (by decide) (by decide)) dL_tile_11 rfl (fun H locs hM => ?_)
  refine lv_goto (tgt := 23) hx hb dL_tile_12 (by decide) ?_
  refine lv_iconst (v := 0) hx hb dL_tile_23 (by decide) ?_
  exact z_iret hx hb hr hlocks dL_tile_24 hM (Nat.le_of_ble_eq_true rfl) (Nat.le_of_ble_eq_true rfl) rfl
set_option maxHeartbeats 4000000 in
set_option maxRecDepth 100000 in
theorem w_x_tile0_1 (l : Launch) (G : zC) (o9 : Nat) (u0 u2 u3 u4 u5 u6 u7 : Value) (a : zGA) (h : Nat → Int32) (b : Nat → Nat → Int32) (P t S e0 : Nat) (hG : zGs h b P t S e0) (o : Nat) (ho : o < P) (j : Nat) (hj : j < 9) (oa : Nat) (og : Nat → Int64) : zMetN l G yL_tile wsL_tile rmL_tile [.ref o9, .int (nI o), .int (nI j), .int 1, .ref oa] ([(oa, .inl (G.2 5, 1, .inr (.inl og)))] ++ ([(o9, .inr (6, [u0, .ref a.1, u2, u3, u4, u5, u6, u7]))] ++ (gmW G a h b))) (some (.int 0)) ([(oa, .inl (G.2 5, 1, .inr (.inl (vp_updL og 0 (Int32.toInt64 (b o (9 + j)))))))] ++ ([(o9, .inr (6, [u0, .ref a.1, u2, u3, u4, u5, u6, u7]))] ++ (gmW G a h b))) := by
  refine zMetN_of (cc := cL_tile) (maxL := 6) (ret := (some .int)) (hh := [(0, 12, 15, 28), (0, 12, 19, 13)]) (by decide) rfl (Nat.le_of_ble_eq_true rfl) ?_
  intro p e s m below meth c A ls hx hb hr htb hml hown hts hK hA hE hN hTh hlocks hin hM hl
  have hown : s.vm.findClass RL = some m.cls := hown
  have hl : lv_has ls 6 [(0, .ref o9), (1, .int (nI o)), (2, .int (nI j)), (3, .int 1), (4, .ref oa)] := hl
  refine lv_aload hx hb dL_tile_0 (lv_at hl 4 rfl) ?_
  refine lv_iconst (v := 0) hx hb dL_tile_2 (by decide) ?_
  refine lv_aload_n hx hb dL_tile_3 rfl (lv_at hl 0 rfl) ?_
  refine lv_iload_n hx hb dL_tile_4 rfl (lv_at hl 1 rfl) ?_
  refine lv_iload_n hx hb dL_tile_5 rfl (lv_at hl 2 rfl) ?_
  refine lv_iload_n hx hb dL_tile_6 rfl (lv_at hl 3 rfl) ?_
  refine z_callV (As := [.int (nI o), .int (nI j), .int 1]) (rest := [.int 0, .ref oa]) (wc := ([(o9, .inr (6, [u0, .ref a.1, u2, u3, u4, u5, u6, u7]))] ++ (gmW G a h b))) (wr := [(oa, .inl (G.2 5, 1, .inr (.inl og)))]) (w1 := ([(o9, .inr (6, [u0, .ref a.1, u2, u3, u4, u5, u6, u7]))] ++ (gmW G a h b))) (ws' := [(oa, .inl (G.2 5, 1, .inr (.inl og)))] ++ ([(o9, .inr (6, [u0, .ref a.1, u2, u3, u4, u5, u6, u7]))] ++ (gmW G a h b))) ⟨hx, hb, hml, hown, hts⟩ (c_x_tile0_1 l G o9 u0 u2 u3 u4 u5 u6 u7 a h b P t S e0 hG o ho j hj) (cwV 3 hts gL_tile_X6_tile rfl rfl rfl (by decide +kernel) ⟨(Nat.le_of_ble_eq_true rfl), (Nat.le_of_ble_eq_true rfl)⟩) 6 rfl rfl rfl rfl hl.1 rfl (Nat.le_of_ble_eq_true rfl) dL_tile_7 ⟨(Nat.le_of_ble_eq_true rfl), (Nat.le_of_ble_eq_true rfl)⟩ hK hE hA hM List.perm_append_comm List.perm_append_comm (fun H locs hM hz => ?_)
  refine lv_i2l (v := Int32.toInt64 (b o (9 + j))) hx hb dL_tile_10 rfl ?_
  refine z_last (ws' := [(oa, .inl (G.2 5, 1, .inr (.inl (vp_updL og 0 (Int32.toInt64 (b o (9 + j)))))))] ++ ([(o9, .inr (6, [u0, .ref a.1, u2, u3, u4, u5, u6, u7]))] ++ (gmW G a h b))) hx hb hK hM 0 rfl (vp_in_nI (n := 0) (by decide) (by decide)) dL_tile_11 rfl (fun H locs hM => ?_)
  refine lv_goto (tgt := 23) hx hb dL_tile_12 (by decide) ?_
  refine lv_iconst (v := 0) hx hb dL_tile_23 (by decide) ?_
  exact z_iret hx hb hr hlocks dL_tile_24 hM (Nat.le_of_ble_eq_true rfl) (Nat.le_of_ble_eq_true rfl) rfl
set_option maxHeartbeats 4000000 in
set_option maxRecDepth 100000 in
theorem w_x_tile0_2 (l : Launch) (G : zC) (o9 : Nat) (u0 u2 u3 u4 u5 u6 u7 : Value) (a : zGA) (h : Nat → Int32) (b : Nat → Nat → Int32) (P t S e0 : Nat) (hG : zGs h b P t S e0) (o : Nat) (ho : o < P) (j : Nat) (hj : j < 9) (oa : Nat) (og : Nat → Int64) : zMetN l G yL_tile wsL_tile rmL_tile [.ref o9, .int (nI o), .int (nI j), .int 2, .ref oa] ([(oa, .inl (G.2 5, 1, .inr (.inl og)))] ++ ([(o9, .inr (6, [u0, .ref a.1, u2, u3, u4, u5, u6, u7]))] ++ (gmW G a h b))) (some (.int 0)) ([(oa, .inl (G.2 5, 1, .inr (.inl (vp_updL og 0 (Int32.toInt64 (if b o 24 = nI j then 1 else 0))))))] ++ ([(o9, .inr (6, [u0, .ref a.1, u2, u3, u4, u5, u6, u7]))] ++ (gmW G a h b))) := by
  refine zMetN_of (cc := cL_tile) (maxL := 6) (ret := (some .int)) (hh := [(0, 12, 15, 28), (0, 12, 19, 13)]) (by decide) rfl (Nat.le_of_ble_eq_true rfl) ?_
  intro p e s m below meth c A ls hx hb hr htb hml hown hts hK hA hE hN hTh hlocks hin hM hl
  have hown : s.vm.findClass RL = some m.cls := hown
  have hl : lv_has ls 6 [(0, .ref o9), (1, .int (nI o)), (2, .int (nI j)), (3, .int 2), (4, .ref oa)] := hl
  refine lv_aload hx hb dL_tile_0 (lv_at hl 4 rfl) ?_
  refine lv_iconst (v := 0) hx hb dL_tile_2 (by decide) ?_
  refine lv_aload_n hx hb dL_tile_3 rfl (lv_at hl 0 rfl) ?_
  refine lv_iload_n hx hb dL_tile_4 rfl (lv_at hl 1 rfl) ?_
  refine lv_iload_n hx hb dL_tile_5 rfl (lv_at hl 2 rfl) ?_
  refine lv_iload_n hx hb dL_tile_6 rfl (lv_at hl 3 rfl) ?_
  refine z_callV (As := [.int (nI o), .int (nI j), .int 2]) (rest := [.int 0, .ref oa]) (wc := ([(o9, .inr (6, [u0, .ref a.1, u2, u3, u4, u5, u6, u7]))] ++ (gmW G a h b))) (wr := [(oa, .inl (G.2 5, 1, .inr (.inl og)))]) (w1 := ([(o9, .inr (6, [u0, .ref a.1, u2, u3, u4, u5, u6, u7]))] ++ (gmW G a h b))) (ws' := [(oa, .inl (G.2 5, 1, .inr (.inl og)))] ++ ([(o9, .inr (6, [u0, .ref a.1, u2, u3, u4, u5, u6, u7]))] ++ (gmW G a h b))) ⟨hx, hb, hml, hown, hts⟩ (c_x_tile0_2 l G o9 u0 u2 u3 u4 u5 u6 u7 a h b P t S e0 hG o ho j hj) (cwV 3 hts gL_tile_X6_tile rfl rfl rfl (by decide +kernel) ⟨(Nat.le_of_ble_eq_true rfl), (Nat.le_of_ble_eq_true rfl)⟩) 6 rfl rfl rfl rfl hl.1 rfl (Nat.le_of_ble_eq_true rfl) dL_tile_7 ⟨(Nat.le_of_ble_eq_true rfl), (Nat.le_of_ble_eq_true rfl)⟩ hK hE hA hM List.perm_append_comm List.perm_append_comm (fun H locs hM hz => ?_)
  refine lv_i2l (v := Int32.toInt64 (if b o 24 = nI j then 1 else 0)) hx hb dL_tile_10 rfl ?_
  refine z_last (ws' := [(oa, .inl (G.2 5, 1, .inr (.inl (vp_updL og 0 (Int32.toInt64 (if b o 24 = nI j then 1 else 0))))))] ++ ([(o9, .inr (6, [u0, .ref a.1, u2, u3, u4, u5, u6, u7]))] ++ (gmW G a h b))) hx hb hK hM 0 rfl (vp_in_nI (n := 0) (by decide) (by decide)) dL_tile_11 rfl (fun H locs hM => ?_)
  refine lv_goto (tgt := 23) hx hb dL_tile_12 (by decide) ?_
  refine lv_iconst (v := 0) hx hb dL_tile_23 (by decide) ?_
  exact z_iret hx hb hr hlocks dL_tile_24 hM (Nat.le_of_ble_eq_true rfl) (Nat.le_of_ble_eq_true rfl) rfl
set_option maxHeartbeats 4000000 in
set_option maxRecDepth 100000 in
theorem w_x_player1 (l : Launch) (G : zC) (hl0 : l.stackTraces = false) (o9 : Nat) (u0 u2 u3 u4 u5 u6 u7 : Value) (a : zGA) (h : Nat → Int32) (b : Nat → Nat → Int32) (i w9 : Int32) (hc : zHp h i = false) (oa : Nat) (og : Nat → Int64) : zMetN l G yL_player wsL_player rmL_player [.ref o9, .int i, .int w9, .ref oa] ([(oa, .inl (G.2 5, 1, .inr (.inl og)))] ++ ([(o9, .inr (6, [u0, .ref a.1, u2, u3, u4, u5, u6, u7]))] ++ (gmW G a h b))) (some (.int 1)) ([(oa, .inl (G.2 5, 1, .inr (.inl og)))] ++ ([(o9, .inr (6, [u0, .ref a.1, u2, u3, u4, u5, u6, u7]))] ++ (gmW G a h b))) := by
  refine zMetN_of (cc := cL_player) (maxL := 5) (ret := (some .int)) (hh := [(0, 10, 13, 28), (0, 10, 17, 13)]) (by decide) rfl (Nat.le_of_ble_eq_true rfl) ?_
  intro p e s m below meth c A ls hx hb hr htb hml hown hts hK hA hE hN hTh hlocks hin hM hl
  have hown : s.vm.findClass RL = some m.cls := hown
  have hl : lv_has ls 5 [(0, .ref o9), (1, .int i), (2, .int w9), (3, .ref oa)] := hl
  refine lv_aload_n hx hb dL_player_0 rfl (lv_at hl 3 rfl) ?_
  refine lv_iconst (v := 0) hx hb dL_player_1 (by decide) ?_
  refine lv_aload_n hx hb dL_player_2 rfl (lv_at hl 0 rfl) ?_
  refine lv_iload_n hx hb dL_player_3 rfl (lv_at hl 1 rfl) ?_
  refine lv_iload_n hx hb dL_player_4 rfl (lv_at hl 2 rfl) ?_
  refine z_callVT (As := [.int i, .int w9]) (rest := [.int 0, .ref oa]) (wc := ([(o9, .inr (6, [u0, .ref a.1, u2, u3, u4, u5, u6, u7]))] ++ (gmW G a h b))) (wr := [(oa, .inl (G.2 5, 1, .inr (.inl og)))]) ⟨hx, hb, hml, hown, hts⟩ (c_x_player1 l G hl0 o9 u0 u2 u3 u4 u5 u6 u7 a h b i w9 hc) (cwV 2 hts gL_player_X6_player rfl rfl rfl (by decide +kernel) ⟨(Nat.le_of_ble_eq_true rfl), (Nat.le_of_ble_eq_true rfl)⟩) 6 rfl rfl rfl rfl hl.1 rfl (Nat.le_of_ble_eq_true rfl) dL_player_5 ⟨(Nat.le_of_ble_eq_true rfl), (Nat.le_of_ble_eq_true rfl)⟩ hK hE hTh hA hM List.perm_append_comm (fun qx9 ce H locs hM hce hcv hcl9 => ?_)
  refine vx_catch (own := RL) (name := "java/lang/IndexOutOfBoundsException") (E := "java/lang/IndexOutOfBoundsException") (ce := ce) hown [] ⟨0, 10, 13, 28⟩ [⟨0, 10, 17, 13⟩] (htb.trans rfl) (fun z h9 => by cases h9) rfl (by decide) (hts (.classLink RL 28 "java/lang/IndexOutOfBoundsException") (by decide +kernel)) (va_Nw.use rfl (hTh.2 "java/lang/IndexOutOfBoundsException" (List.mem_of_getElem? (i := 2) rfl))) hce hcv hcl9 ?_
  refine lv_astore (lv' := [(4, .ref qx9), (0, .ref o9), (1, .int i), (2, .int w9), (3, .ref oa)]) hx hb dL_player_13 hl (by decide) rfl (fun ls hl => ?_)
  refine lv_iconst (v := 1) hx hb dL_player_15 (by decide) ?_
  exact z_iret hx hb hr hlocks dL_player_16 hM (Nat.le_of_ble_eq_true rfl) (Nat.le_of_ble_eq_true rfl) rfl
set_option maxHeartbeats 4000000 in
set_option maxRecDepth 100000 in
theorem w_x_player2 (l : Launch) (G : zC) (hl0 : l.stackTraces = false) (o9 : Nat) (u0 u2 u3 u4 u5 u6 u7 : Value) (a : zGA) (h : Nat → Int32) (b : Nat → Nat → Int32) (P t S e0 : Nat) (hG : zGs h b P t S e0) (o : Nat) (ho : o < P) (w9 : Int32) (hc : w9 < 0 ∨ 8 < w9) (oa : Nat) (og : Nat → Int64) : zMetN l G yL_player wsL_player rmL_player [.ref o9, .int (nI o), .int w9, .ref oa] ([(oa, .inl (G.2 5, 1, .inr (.inl og)))] ++ ([(o9, .inr (6, [u0, .ref a.1, u2, u3, u4, u5, u6, u7]))] ++ (gmW G a h b))) (some (.int 2)) ([(oa, .inl (G.2 5, 1, .inr (.inl og)))] ++ ([(o9, .inr (6, [u0, .ref a.1, u2, u3, u4, u5, u6, u7]))] ++ (gmW G a h b))) := by
  refine zMetN_of (cc := cL_player) (maxL := 5) (ret := (some .int)) (hh := [(0, 10, 13, 28), (0, 10, 17, 13)]) (by decide) rfl (Nat.le_of_ble_eq_true rfl) ?_
  intro p e s m below meth c A ls hx hb hr htb hml hown hts hK hA hE hN hTh hlocks hin hM hl
  have hown : s.vm.findClass RL = some m.cls := hown
  have hl : lv_has ls 5 [(0, .ref o9), (1, .int (nI o)), (2, .int w9), (3, .ref oa)] := hl
  refine lv_aload_n hx hb dL_player_0 rfl (lv_at hl 3 rfl) ?_
  refine lv_iconst (v := 0) hx hb dL_player_1 (by decide) ?_
  refine lv_aload_n hx hb dL_player_2 rfl (lv_at hl 0 rfl) ?_
  refine lv_iload_n hx hb dL_player_3 rfl (lv_at hl 1 rfl) ?_
  refine lv_iload_n hx hb dL_player_4 rfl (lv_at hl 2 rfl) ?_
  refine z_callVT (As := [.int (nI o), .int w9]) (rest := [.int 0, .ref oa]) (wc := ([(o9, .inr (6, [u0, .ref a.1, u2, u3, u4, u5, u6, u7]))] ++ (gmW G a h b))) (wr := [(oa, .inl (G.2 5, 1, .inr (.inl og)))]) ⟨hx, hb, hml, hown, hts⟩ (c_x_player2 l G hl0 o9 u0 u2 u3 u4 u5 u6 u7 a h b P t S e0 hG o ho w9 hc) (cwV 2 hts gL_player_X6_player rfl rfl rfl (by decide +kernel) ⟨(Nat.le_of_ble_eq_true rfl), (Nat.le_of_ble_eq_true rfl)⟩) 6 rfl rfl rfl rfl hl.1 rfl (Nat.le_of_ble_eq_true rfl) dL_player_5 ⟨(Nat.le_of_ble_eq_true rfl), (Nat.le_of_ble_eq_true rfl)⟩ hK hE hTh hA hM List.perm_append_comm (fun qx9 ce H locs hM hce hcv hcl9 => ?_)
  refine vx_catch (own := RL) (name := "java/lang/IllegalArgumentException") (E := "java/lang/IllegalArgumentException") (ce := ce) hown [⟨0, 10, 13, 28⟩] ⟨0, 10, 17, 13⟩ [] (htb.trans rfl) (fun z h9 => by cases List.mem_singleton.mp h9; exact Or.inr ⟨by decide, "java/lang/IndexOutOfBoundsException", hts (.classLink RL 28 "java/lang/IndexOutOfBoundsException") (by decide +kernel), hN ("java/lang/IllegalArgumentException", "java/lang/IndexOutOfBoundsException") (List.mem_of_getElem? (i := 1) rfl)⟩) rfl (by decide) (hts (.classLink RL 13 "java/lang/IllegalArgumentException") (by decide +kernel)) (va_Nw.use rfl (hTh.2 "java/lang/IllegalArgumentException" (List.mem_of_getElem? (i := 0) rfl))) hce hcv hcl9 ?_
  refine lv_astore (lv' := [(4, .ref qx9), (0, .ref o9), (1, .int (nI o)), (2, .int w9), (3, .ref oa)]) hx hb dL_player_17 hl (by decide) rfl (fun ls hl => ?_)
  refine lv_iconst (v := 2) hx hb dL_player_19 (by decide) ?_
  exact z_iret hx hb hr hlocks dL_player_20 hM (Nat.le_of_ble_eq_true rfl) (Nat.le_of_ble_eq_true rfl) rfl
set_option maxHeartbeats 4000000 in
set_option maxRecDepth 100000 in
theorem w_x_player0_0 (l : Launch) (G : zC) (o9 : Nat) (u0 u2 u3 u4 u5 u6 u7 : Value) (a : zGA) (h : Nat → Int32) (b : Nat → Nat → Int32) (P t S e0 : Nat) (hG : zGs h b P t S e0) (o : Nat) (ho : o < P) (oa : Nat) (og : Nat → Int64) : zMetN l G yL_player wsL_player rmL_player [.ref o9, .int (nI o), .int 0, .ref oa] ([(oa, .inl (G.2 5, 1, .inr (.inl og)))] ++ ([(o9, .inr (6, [u0, .ref a.1, u2, u3, u4, u5, u6, u7]))] ++ (gmW G a h b))) (some (.int 0)) ([(oa, .inl (G.2 5, 1, .inr (.inl (vp_updL og 0 (Int32.toInt64 (b o 24))))))] ++ ([(o9, .inr (6, [u0, .ref a.1, u2, u3, u4, u5, u6, u7]))] ++ (gmW G a h b))) := by
  refine zMetN_of (cc := cL_player) (maxL := 5) (ret := (some .int)) (hh := [(0, 10, 13, 28), (0, 10, 17, 13)]) (by decide) rfl (Nat.le_of_ble_eq_true rfl) ?_
  intro p e s m below meth c A ls hx hb hr htb hml hown hts hK hA hE hN hTh hlocks hin hM hl
  have hown : s.vm.findClass RL = some m.cls := hown
  have hl : lv_has ls 5 [(0, .ref o9), (1, .int (nI o)), (2, .int 0), (3, .ref oa)] := hl
  refine lv_aload_n hx hb dL_player_0 rfl (lv_at hl 3 rfl) ?_
  refine lv_iconst (v := 0) hx hb dL_player_1 (by decide) ?_
  refine lv_aload_n hx hb dL_player_2 rfl (lv_at hl 0 rfl) ?_
  refine lv_iload_n hx hb dL_player_3 rfl (lv_at hl 1 rfl) ?_
  refine lv_iload_n hx hb dL_player_4 rfl (lv_at hl 2 rfl) ?_
  refine z_callV (As := [.int (nI o), .int 0]) (rest := [.int 0, .ref oa]) (wc := ([(o9, .inr (6, [u0, .ref a.1, u2, u3, u4, u5, u6, u7]))] ++ (gmW G a h b))) (wr := [(oa, .inl (G.2 5, 1, .inr (.inl og)))]) (w1 := ([(o9, .inr (6, [u0, .ref a.1, u2, u3, u4, u5, u6, u7]))] ++ (gmW G a h b))) (ws' := [(oa, .inl (G.2 5, 1, .inr (.inl og)))] ++ ([(o9, .inr (6, [u0, .ref a.1, u2, u3, u4, u5, u6, u7]))] ++ (gmW G a h b))) ⟨hx, hb, hml, hown, hts⟩ (c_x_player0_0 l G o9 u0 u2 u3 u4 u5 u6 u7 a h b P t S e0 hG o ho) (cwV 2 hts gL_player_X6_player rfl rfl rfl (by decide +kernel) ⟨(Nat.le_of_ble_eq_true rfl), (Nat.le_of_ble_eq_true rfl)⟩) 6 rfl rfl rfl rfl hl.1 rfl (Nat.le_of_ble_eq_true rfl) dL_player_5 ⟨(Nat.le_of_ble_eq_true rfl), (Nat.le_of_ble_eq_true rfl)⟩ hK hE hA hM List.perm_append_comm List.perm_append_comm (fun H locs hM hz => ?_)
  refine lv_i2l (v := Int32.toInt64 (b o 24)) hx hb dL_player_8 rfl ?_
  refine z_last (ws' := [(oa, .inl (G.2 5, 1, .inr (.inl (vp_updL og 0 (Int32.toInt64 (b o 24))))))] ++ ([(o9, .inr (6, [u0, .ref a.1, u2, u3, u4, u5, u6, u7]))] ++ (gmW G a h b))) hx hb hK hM 0 rfl (vp_in_nI (n := 0) (by decide) (by decide)) dL_player_9 rfl (fun H locs hM => ?_)
  refine lv_goto (tgt := 21) hx hb dL_player_10 (by decide) ?_
  refine lv_iconst (v := 0) hx hb dL_player_21 (by decide) ?_
  exact z_iret hx hb hr hlocks dL_player_22 hM (Nat.le_of_ble_eq_true rfl) (Nat.le_of_ble_eq_true rfl) rfl
set_option maxHeartbeats 4000000 in
set_option maxRecDepth 100000 in
theorem w_x_player0_1 (l : Launch) (G : zC) (o9 : Nat) (u0 u2 u3 u4 u5 u6 u7 : Value) (a : zGA) (h : Nat → Int32) (b : Nat → Nat → Int32) (P t S e0 : Nat) (hG : zGs h b P t S e0) (o : Nat) (ho : o < P) (oa : Nat) (og : Nat → Int64) : zMetN l G yL_player wsL_player rmL_player [.ref o9, .int (nI o), .int 1, .ref oa] ([(oa, .inl (G.2 5, 1, .inr (.inl og)))] ++ ([(o9, .inr (6, [u0, .ref a.1, u2, u3, u4, u5, u6, u7]))] ++ (gmW G a h b))) (some (.int 0)) ([(oa, .inl (G.2 5, 1, .inr (.inl (vp_updL og 0 (Int32.toInt64 (b o 23))))))] ++ ([(o9, .inr (6, [u0, .ref a.1, u2, u3, u4, u5, u6, u7]))] ++ (gmW G a h b))) := by
  refine zMetN_of (cc := cL_player) (maxL := 5) (ret := (some .int)) (hh := [(0, 10, 13, 28), (0, 10, 17, 13)]) (by decide) rfl (Nat.le_of_ble_eq_true rfl) ?_
  intro p e s m below meth c A ls hx hb hr htb hml hown hts hK hA hE hN hTh hlocks hin hM hl
  have hown : s.vm.findClass RL = some m.cls := hown
  have hl : lv_has ls 5 [(0, .ref o9), (1, .int (nI o)), (2, .int 1), (3, .ref oa)] := hl
  refine lv_aload_n hx hb dL_player_0 rfl (lv_at hl 3 rfl) ?_
  refine lv_iconst (v := 0) hx hb dL_player_1 (by decide) ?_
  refine lv_aload_n hx hb dL_player_2 rfl (lv_at hl 0 rfl) ?_
  refine lv_iload_n hx hb dL_player_3 rfl (lv_at hl 1 rfl) ?_
  refine lv_iload_n hx hb dL_player_4 rfl (lv_at hl 2 rfl) ?_
  refine z_callV (As := [.int (nI o), .int 1]) (rest := [.int 0, .ref oa]) (wc := ([(o9, .inr (6, [u0, .ref a.1, u2, u3, u4, u5, u6, u7]))] ++ (gmW G a h b))) (wr := [(oa, .inl (G.2 5, 1, .inr (.inl og)))]) (w1 := ([(o9, .inr (6, [u0, .ref a.1, u2, u3, u4, u5, u6, u7]))] ++ (gmW G a h b))) (ws' := [(oa, .inl (G.2 5, 1, .inr (.inl og)))] ++ ([(o9, .inr (6, [u0, .ref a.1, u2, u3, u4, u5, u6, u7]))] ++ (gmW G a h b))) ⟨hx, hb, hml, hown, hts⟩ (c_x_player0_1 l G o9 u0 u2 u3 u4 u5 u6 u7 a h b P t S e0 hG o ho) (cwV 2 hts gL_player_X6_player rfl rfl rfl (by decide +kernel) ⟨(Nat.le_of_ble_eq_true rfl), (Nat.le_of_ble_eq_true rfl)⟩) 6 rfl rfl rfl rfl hl.1 rfl (Nat.le_of_ble_eq_true rfl) dL_player_5 ⟨(Nat.le_of_ble_eq_true rfl), (Nat.le_of_ble_eq_true rfl)⟩ hK hE hA hM List.perm_append_comm List.perm_append_comm (fun H locs hM hz => ?_)
  refine lv_i2l (v := Int32.toInt64 (b o 23)) hx hb dL_player_8 rfl ?_
  refine z_last (ws' := [(oa, .inl (G.2 5, 1, .inr (.inl (vp_updL og 0 (Int32.toInt64 (b o 23))))))] ++ ([(o9, .inr (6, [u0, .ref a.1, u2, u3, u4, u5, u6, u7]))] ++ (gmW G a h b))) hx hb hK hM 0 rfl (vp_in_nI (n := 0) (by decide) (by decide)) dL_player_9 rfl (fun H locs hM => ?_)
  refine lv_goto (tgt := 21) hx hb dL_player_10 (by decide) ?_
  refine lv_iconst (v := 0) hx hb dL_player_21 (by decide) ?_
  exact z_iret hx hb hr hlocks dL_player_22 hM (Nat.le_of_ble_eq_true rfl) (Nat.le_of_ble_eq_true rfl) rfl
set_option maxHeartbeats 4000000 in
set_option maxRecDepth 100000 in
theorem w_x_player0_2 (l : Launch) (G : zC) (o9 : Nat) (u0 u2 u3 u4 u5 u6 u7 : Value) (a : zGA) (h : Nat → Int32) (b : Nat → Nat → Int32) (P t S e0 : Nat) (hG : zGs h b P t S e0) (o : Nat) (ho : o < P) (oa : Nat) (og : Nat → Int64) : zMetN l G yL_player wsL_player rmL_player [.ref o9, .int (nI o), .int 2, .ref oa] ([(oa, .inl (G.2 5, 1, .inr (.inl og)))] ++ ([(o9, .inr (6, [u0, .ref a.1, u2, u3, u4, u5, u6, u7]))] ++ (gmW G a h b))) (some (.int 0)) ([(oa, .inl (G.2 5, 1, .inr (.inl (vp_updL og 0 (Int32.toInt64 (zSo (b o)))))))] ++ ([(o9, .inr (6, [u0, .ref a.1, u2, u3, u4, u5, u6, u7]))] ++ (gmW G a h b))) := by
  refine zMetN_of (cc := cL_player) (maxL := 5) (ret := (some .int)) (hh := [(0, 10, 13, 28), (0, 10, 17, 13)]) (by decide) rfl (Nat.le_of_ble_eq_true rfl) ?_
  intro p e s m below meth c A ls hx hb hr htb hml hown hts hK hA hE hN hTh hlocks hin hM hl
  have hown : s.vm.findClass RL = some m.cls := hown
  have hl : lv_has ls 5 [(0, .ref o9), (1, .int (nI o)), (2, .int 2), (3, .ref oa)] := hl
  refine lv_aload_n hx hb dL_player_0 rfl (lv_at hl 3 rfl) ?_
  refine lv_iconst (v := 0) hx hb dL_player_1 (by decide) ?_
  refine lv_aload_n hx hb dL_player_2 rfl (lv_at hl 0 rfl) ?_
  refine lv_iload_n hx hb dL_player_3 rfl (lv_at hl 1 rfl) ?_
  refine lv_iload_n hx hb dL_player_4 rfl (lv_at hl 2 rfl) ?_
  refine z_callV (As := [.int (nI o), .int 2]) (rest := [.int 0, .ref oa]) (wc := ([(o9, .inr (6, [u0, .ref a.1, u2, u3, u4, u5, u6, u7]))] ++ (gmW G a h b))) (wr := [(oa, .inl (G.2 5, 1, .inr (.inl og)))]) (w1 := ([(o9, .inr (6, [u0, .ref a.1, u2, u3, u4, u5, u6, u7]))] ++ (gmW G a h b))) (ws' := [(oa, .inl (G.2 5, 1, .inr (.inl og)))] ++ ([(o9, .inr (6, [u0, .ref a.1, u2, u3, u4, u5, u6, u7]))] ++ (gmW G a h b))) ⟨hx, hb, hml, hown, hts⟩ (c_x_player0_2 l G o9 u0 u2 u3 u4 u5 u6 u7 a h b P t S e0 hG o ho) (cwV 2 hts gL_player_X6_player rfl rfl rfl (by decide +kernel) ⟨(Nat.le_of_ble_eq_true rfl), (Nat.le_of_ble_eq_true rfl)⟩) 6 rfl rfl rfl rfl hl.1 rfl (Nat.le_of_ble_eq_true rfl) dL_player_5 ⟨(Nat.le_of_ble_eq_true rfl), (Nat.le_of_ble_eq_true rfl)⟩ hK hE hA hM List.perm_append_comm List.perm_append_comm (fun H locs hM hz => ?_)
  refine lv_i2l (v := Int32.toInt64 (zSo (b o))) hx hb dL_player_8 rfl ?_
  refine z_last (ws' := [(oa, .inl (G.2 5, 1, .inr (.inl (vp_updL og 0 (Int32.toInt64 (zSo (b o)))))))] ++ ([(o9, .inr (6, [u0, .ref a.1, u2, u3, u4, u5, u6, u7]))] ++ (gmW G a h b))) hx hb hK hM 0 rfl (vp_in_nI (n := 0) (by decide) (by decide)) dL_player_9 rfl (fun H locs hM => ?_)
  refine lv_goto (tgt := 21) hx hb dL_player_10 (by decide) ?_
  refine lv_iconst (v := 0) hx hb dL_player_21 (by decide) ?_
  exact z_iret hx hb hr hlocks dL_player_22 hM (Nat.le_of_ble_eq_true rfl) (Nat.le_of_ble_eq_true rfl) rfl
set_option maxHeartbeats 4000000 in
set_option maxRecDepth 100000 in
theorem w_x_player0_3 (l : Launch) (G : zC) (o9 : Nat) (u0 u2 u3 u4 u5 u6 u7 : Value) (a : zGA) (h : Nat → Int32) (b : Nat → Nat → Int32) (P t S e0 : Nat) (hG : zGs h b P t S e0) (o : Nat) (ho : o < P) (oa : Nat) (og : Nat → Int64) : zMetN l G yL_player wsL_player rmL_player [.ref o9, .int (nI o), .int 3, .ref oa] ([(oa, .inl (G.2 5, 1, .inr (.inl og)))] ++ ([(o9, .inr (6, [u0, .ref a.1, u2, u3, u4, u5, u6, u7]))] ++ (gmW G a h b))) (some (.int 0)) ([(oa, .inl (G.2 5, 1, .inr (.inl (vp_updL og 0 (Int32.toInt64 (zSp (b o)))))))] ++ ([(o9, .inr (6, [u0, .ref a.1, u2, u3, u4, u5, u6, u7]))] ++ (gmW G a h b))) := by
  refine zMetN_of (cc := cL_player) (maxL := 5) (ret := (some .int)) (hh := [(0, 10, 13, 28), (0, 10, 17, 13)]) (by decide) rfl (Nat.le_of_ble_eq_true rfl) ?_
  intro p e s m below meth c A ls hx hb hr htb hml hown hts hK hA hE hN hTh hlocks hin hM hl
  have hown : s.vm.findClass RL = some m.cls := hown
  have hl : lv_has ls 5 [(0, .ref o9), (1, .int (nI o)), (2, .int 3), (3, .ref oa)] := hl
  refine lv_aload_n hx hb dL_player_0 rfl (lv_at hl 3 rfl) ?_
  refine lv_iconst (v := 0) hx hb dL_player_1 (by decide) ?_
  refine lv_aload_n hx hb dL_player_2 rfl (lv_at hl 0 rfl) ?_
  refine lv_iload_n hx hb dL_player_3 rfl (lv_at hl 1 rfl) ?_
  refine lv_iload_n hx hb dL_player_4 rfl (lv_at hl 2 rfl) ?_
  refine z_callV (As := [.int (nI o), .int 3]) (rest := [.int 0, .ref oa]) (wc := ([(o9, .inr (6, [u0, .ref a.1, u2, u3, u4, u5, u6, u7]))] ++ (gmW G a h b))) (wr := [(oa, .inl (G.2 5, 1, .inr (.inl og)))]) (w1 := ([(o9, .inr (6, [u0, .ref a.1, u2, u3, u4, u5, u6, u7]))] ++ (gmW G a h b))) (ws' := [(oa, .inl (G.2 5, 1, .inr (.inl og)))] ++ ([(o9, .inr (6, [u0, .ref a.1, u2, u3, u4, u5, u6, u7]))] ++ (gmW G a h b))) ⟨hx, hb, hml, hown, hts⟩ (c_x_player0_3 l G o9 u0 u2 u3 u4 u5 u6 u7 a h b P t S e0 hG o ho) (cwV 2 hts gL_player_X6_player rfl rfl rfl (by decide +kernel) ⟨(Nat.le_of_ble_eq_true rfl), (Nat.le_of_ble_eq_true rfl)⟩) 6 rfl rfl rfl rfl hl.1 rfl (Nat.le_of_ble_eq_true rfl) dL_player_5 ⟨(Nat.le_of_ble_eq_true rfl), (Nat.le_of_ble_eq_true rfl)⟩ hK hE hA hM List.perm_append_comm List.perm_append_comm (fun H locs hM hz => ?_)
  refine lv_i2l (v := Int32.toInt64 (zSp (b o))) hx hb dL_player_8 rfl ?_
  refine z_last (ws' := [(oa, .inl (G.2 5, 1, .inr (.inl (vp_updL og 0 (Int32.toInt64 (zSp (b o)))))))] ++ ([(o9, .inr (6, [u0, .ref a.1, u2, u3, u4, u5, u6, u7]))] ++ (gmW G a h b))) hx hb hK hM 0 rfl (vp_in_nI (n := 0) (by decide) (by decide)) dL_player_9 rfl (fun H locs hM => ?_)
  refine lv_goto (tgt := 21) hx hb dL_player_10 (by decide) ?_
  refine lv_iconst (v := 0) hx hb dL_player_21 (by decide) ?_
  exact z_iret hx hb hr hlocks dL_player_22 hM (Nat.le_of_ble_eq_true rfl) (Nat.le_of_ble_eq_true rfl) rfl
set_option maxHeartbeats 4000000 in
set_option maxRecDepth 100000 in
theorem w_x_player0_4 (l : Launch) (G : zC) (o9 : Nat) (u0 u2 u3 u4 u5 u6 u7 : Value) (a : zGA) (h : Nat → Int32) (b : Nat → Nat → Int32) (P t S e0 : Nat) (hG : zGs h b P t S e0) (o : Nat) (ho : o < P) (oa : Nat) (og : Nat → Int64) : zMetN l G yL_player wsL_player rmL_player [.ref o9, .int (nI o), .int 4, .ref oa] ([(oa, .inl (G.2 5, 1, .inr (.inl og)))] ++ ([(o9, .inr (6, [u0, .ref a.1, u2, u3, u4, u5, u6, u7]))] ++ (gmW G a h b))) (some (.int 0)) ([(oa, .inl (G.2 5, 1, .inr (.inl (vp_updL og 0 (Int32.toInt64 (b o 25))))))] ++ ([(o9, .inr (6, [u0, .ref a.1, u2, u3, u4, u5, u6, u7]))] ++ (gmW G a h b))) := by
  refine zMetN_of (cc := cL_player) (maxL := 5) (ret := (some .int)) (hh := [(0, 10, 13, 28), (0, 10, 17, 13)]) (by decide) rfl (Nat.le_of_ble_eq_true rfl) ?_
  intro p e s m below meth c A ls hx hb hr htb hml hown hts hK hA hE hN hTh hlocks hin hM hl
  have hown : s.vm.findClass RL = some m.cls := hown
  have hl : lv_has ls 5 [(0, .ref o9), (1, .int (nI o)), (2, .int 4), (3, .ref oa)] := hl
  refine lv_aload_n hx hb dL_player_0 rfl (lv_at hl 3 rfl) ?_
  refine lv_iconst (v := 0) hx hb dL_player_1 (by decide) ?_
  refine lv_aload_n hx hb dL_player_2 rfl (lv_at hl 0 rfl) ?_
  refine lv_iload_n hx hb dL_player_3 rfl (lv_at hl 1 rfl) ?_
  refine lv_iload_n hx hb dL_player_4 rfl (lv_at hl 2 rfl) ?_
  refine z_callV (As := [.int (nI o), .int 4]) (rest := [.int 0, .ref oa]) (wc := ([(o9, .inr (6, [u0, .ref a.1, u2, u3, u4, u5, u6, u7]))] ++ (gmW G a h b))) (wr := [(oa, .inl (G.2 5, 1, .inr (.inl og)))]) (w1 := ([(o9, .inr (6, [u0, .ref a.1, u2, u3, u4, u5, u6, u7]))] ++ (gmW G a h b))) (ws' := [(oa, .inl (G.2 5, 1, .inr (.inl og)))] ++ ([(o9, .inr (6, [u0, .ref a.1, u2, u3, u4, u5, u6, u7]))] ++ (gmW G a h b))) ⟨hx, hb, hml, hown, hts⟩ (c_x_player0_4 l G o9 u0 u2 u3 u4 u5 u6 u7 a h b P t S e0 hG o ho) (cwV 2 hts gL_player_X6_player rfl rfl rfl (by decide +kernel) ⟨(Nat.le_of_ble_eq_true rfl), (Nat.le_of_ble_eq_true rfl)⟩) 6 rfl rfl rfl rfl hl.1 rfl (Nat.le_of_ble_eq_true rfl) dL_player_5 ⟨(Nat.le_of_ble_eq_true rfl), (Nat.le_of_ble_eq_true rfl)⟩ hK hE hA hM List.perm_append_comm List.perm_append_comm (fun H locs hM hz => ?_)
  refine lv_i2l (v := Int32.toInt64 (b o 25)) hx hb dL_player_8 rfl ?_
  refine z_last (ws' := [(oa, .inl (G.2 5, 1, .inr (.inl (vp_updL og 0 (Int32.toInt64 (b o 25))))))] ++ ([(o9, .inr (6, [u0, .ref a.1, u2, u3, u4, u5, u6, u7]))] ++ (gmW G a h b))) hx hb hK hM 0 rfl (vp_in_nI (n := 0) (by decide) (by decide)) dL_player_9 rfl (fun H locs hM => ?_)
  refine lv_goto (tgt := 21) hx hb dL_player_10 (by decide) ?_
  refine lv_iconst (v := 0) hx hb dL_player_21 (by decide) ?_
  exact z_iret hx hb hr hlocks dL_player_22 hM (Nat.le_of_ble_eq_true rfl) (Nat.le_of_ble_eq_true rfl) rfl
set_option maxHeartbeats 4000000 in
set_option maxRecDepth 100000 in
theorem w_x_player0_5 (l : Launch) (G : zC) (o9 : Nat) (u0 u2 u3 u4 u5 u6 u7 : Value) (a : zGA) (h : Nat → Int32) (b : Nat → Nat → Int32) (P t S e0 : Nat) (hG : zGs h b P t S e0) (o : Nat) (ho : o < P) (oa : Nat) (og : Nat → Int64) : zMetN l G yL_player wsL_player rmL_player [.ref o9, .int (nI o), .int 5, .ref oa] ([(oa, .inl (G.2 5, 1, .inr (.inl og)))] ++ ([(o9, .inr (6, [u0, .ref a.1, u2, u3, u4, u5, u6, u7]))] ++ (gmW G a h b))) (some (.int 0)) ([(oa, .inl (G.2 5, 1, .inr (.inl (vp_updL og 0 (Int32.toInt64 (b o 26))))))] ++ ([(o9, .inr (6, [u0, .ref a.1, u2, u3, u4, u5, u6, u7]))] ++ (gmW G a h b))) := by
  refine zMetN_of (cc := cL_player) (maxL := 5) (ret := (some .int)) (hh := [(0, 10, 13, 28), (0, 10, 17, 13)]) (by decide) rfl (Nat.le_of_ble_eq_true rfl) ?_
  intro p e s m below meth c A ls hx hb hr htb hml hown hts hK hA hE hN hTh hlocks hin hM hl
  have hown : s.vm.findClass RL = some m.cls := hown
  have hl : lv_has ls 5 [(0, .ref o9), (1, .int (nI o)), (2, .int 5), (3, .ref oa)] := hl
  refine lv_aload_n hx hb dL_player_0 rfl (lv_at hl 3 rfl) ?_
  refine lv_iconst (v := 0) hx hb dL_player_1 (by decide) ?_
  refine lv_aload_n hx hb dL_player_2 rfl (lv_at hl 0 rfl) ?_
  refine lv_iload_n hx hb dL_player_3 rfl (lv_at hl 1 rfl) ?_
  refine lv_iload_n hx hb dL_player_4 rfl (lv_at hl 2 rfl) ?_
  refine z_callV (As := [.int (nI o), .int 5]) (rest := [.int 0, .ref oa]) (wc := ([(o9, .inr (6, [u0, .ref a.1, u2, u3, u4, u5, u6, u7]))] ++ (gmW G a h b))) (wr := [(oa, .inl (G.2 5, 1, .inr (.inl og)))]) (w1 := ([(o9, .inr (6, [u0, .ref a.1, u2, u3, u4, u5, u6, u7]))] ++ (gmW G a h b))) (ws' := [(oa, .inl (G.2 5, 1, .inr (.inl og)))] ++ ([(o9, .inr (6, [u0, .ref a.1, u2, u3, u4, u5, u6, u7]))] ++ (gmW G a h b))) ⟨hx, hb, hml, hown, hts⟩ (c_x_player0_5 l G o9 u0 u2 u3 u4 u5 u6 u7 a h b P t S e0 hG o ho) (cwV 2 hts gL_player_X6_player rfl rfl rfl (by decide +kernel) ⟨(Nat.le_of_ble_eq_true rfl), (Nat.le_of_ble_eq_true rfl)⟩) 6 rfl rfl rfl rfl hl.1 rfl (Nat.le_of_ble_eq_true rfl) dL_player_5 ⟨(Nat.le_of_ble_eq_true rfl), (Nat.le_of_ble_eq_true rfl)⟩ hK hE hA hM List.perm_append_comm List.perm_append_comm (fun H locs hM hz => ?_)
  refine lv_i2l (v := Int32.toInt64 (b o 26)) hx hb dL_player_8 rfl ?_
  refine z_last (ws' := [(oa, .inl (G.2 5, 1, .inr (.inl (vp_updL og 0 (Int32.toInt64 (b o 26))))))] ++ ([(o9, .inr (6, [u0, .ref a.1, u2, u3, u4, u5, u6, u7]))] ++ (gmW G a h b))) hx hb hK hM 0 rfl (vp_in_nI (n := 0) (by decide) (by decide)) dL_player_9 rfl (fun H locs hM => ?_)
  refine lv_goto (tgt := 21) hx hb dL_player_10 (by decide) ?_
  refine lv_iconst (v := 0) hx hb dL_player_21 (by decide) ?_
  exact z_iret hx hb hr hlocks dL_player_22 hM (Nat.le_of_ble_eq_true rfl) (Nat.le_of_ble_eq_true rfl) rfl
set_option maxHeartbeats 4000000 in
set_option maxRecDepth 100000 in
theorem w_x_player0_6 (l : Launch) (G : zC) (o9 : Nat) (u0 u2 u3 u4 u5 u6 u7 : Value) (a : zGA) (h : Nat → Int32) (b : Nat → Nat → Int32) (P t S e0 : Nat) (hG : zGs h b P t S e0) (o : Nat) (ho : o < P) (oa : Nat) (og : Nat → Int64) : zMetN l G yL_player wsL_player rmL_player [.ref o9, .int (nI o), .int 6, .ref oa] ([(oa, .inl (G.2 5, 1, .inr (.inl og)))] ++ ([(o9, .inr (6, [u0, .ref a.1, u2, u3, u4, u5, u6, u7]))] ++ (gmW G a h b))) (some (.int 0)) ([(oa, .inl (G.2 5, 1, .inr (.inl (vp_updL og 0 (Int32.toInt64 (b o 27))))))] ++ ([(o9, .inr (6, [u0, .ref a.1, u2, u3, u4, u5, u6, u7]))] ++ (gmW G a h b))) := by
  refine zMetN_of (cc := cL_player) (maxL := 5) (ret := (some .int)) (hh := [(0, 10, 13, 28), (0, 10, 17, 13)]) (by decide) rfl (Nat.le_of_ble_eq_true rfl) ?_
  intro p e s m below meth c A ls hx hb hr htb hml hown hts hK hA hE hN hTh hlocks hin hM hl
  have hown : s.vm.findClass RL = some m.cls := hown
  have hl : lv_has ls 5 [(0, .ref o9), (1, .int (nI o)), (2, .int 6), (3, .ref oa)] := hl
  refine lv_aload_n hx hb dL_player_0 rfl (lv_at hl 3 rfl) ?_
  refine lv_iconst (v := 0) hx hb dL_player_1 (by decide) ?_
  refine lv_aload_n hx hb dL_player_2 rfl (lv_at hl 0 rfl) ?_
  refine lv_iload_n hx hb dL_player_3 rfl (lv_at hl 1 rfl) ?_
  refine lv_iload_n hx hb dL_player_4 rfl (lv_at hl 2 rfl) ?_
  refine z_callV (As := [.int (nI o), .int 6]) (rest := [.int 0, .ref oa]) (wc := ([(o9, .inr (6, [u0, .ref a.1, u2, u3, u4, u5, u6, u7]))] ++ (gmW G a h b))) (wr := [(oa, .inl (G.2 5, 1, .inr (.inl og)))]) (w1 := ([(o9, .inr (6, [u0, .ref a.1, u2, u3, u4, u5, u6, u7]))] ++ (gmW G a h b))) (ws' := [(oa, .inl (G.2 5, 1, .inr (.inl og)))] ++ ([(o9, .inr (6, [u0, .ref a.1, u2, u3, u4, u5, u6, u7]))] ++ (gmW G a h b))) ⟨hx, hb, hml, hown, hts⟩ (c_x_player0_6 l G o9 u0 u2 u3 u4 u5 u6 u7 a h b P t S e0 hG o ho) (cwV 2 hts gL_player_X6_player rfl rfl rfl (by decide +kernel) ⟨(Nat.le_of_ble_eq_true rfl), (Nat.le_of_ble_eq_true rfl)⟩) 6 rfl rfl rfl rfl hl.1 rfl (Nat.le_of_ble_eq_true rfl) dL_player_5 ⟨(Nat.le_of_ble_eq_true rfl), (Nat.le_of_ble_eq_true rfl)⟩ hK hE hA hM List.perm_append_comm List.perm_append_comm (fun H locs hM hz => ?_)
  refine lv_i2l (v := Int32.toInt64 (b o 27)) hx hb dL_player_8 rfl ?_
  refine z_last (ws' := [(oa, .inl (G.2 5, 1, .inr (.inl (vp_updL og 0 (Int32.toInt64 (b o 27))))))] ++ ([(o9, .inr (6, [u0, .ref a.1, u2, u3, u4, u5, u6, u7]))] ++ (gmW G a h b))) hx hb hK hM 0 rfl (vp_in_nI (n := 0) (by decide) (by decide)) dL_player_9 rfl (fun H locs hM => ?_)
  refine lv_goto (tgt := 21) hx hb dL_player_10 (by decide) ?_
  refine lv_iconst (v := 0) hx hb dL_player_21 (by decide) ?_
  exact z_iret hx hb hr hlocks dL_player_22 hM (Nat.le_of_ble_eq_true rfl) (Nat.le_of_ble_eq_true rfl) rfl
set_option maxHeartbeats 4000000 in
set_option maxRecDepth 100000 in
theorem w_x_player0_7 (l : Launch) (G : zC) (o9 : Nat) (u0 u2 u3 u4 u5 u6 u7 : Value) (a : zGA) (h : Nat → Int32) (b : Nat → Nat → Int32) (P t S e0 : Nat) (hG : zGs h b P t S e0) (o : Nat) (ho : o < P) (oa : Nat) (og : Nat → Int64) : zMetN l G yL_player wsL_player rmL_player [.ref o9, .int (nI o), .int 7, .ref oa] ([(oa, .inl (G.2 5, 1, .inr (.inl og)))] ++ ([(o9, .inr (6, [u0, .ref a.1, u2, u3, u4, u5, u6, u7]))] ++ (gmW G a h b))) (some (.int 0)) ([(oa, .inl (G.2 5, 1, .inr (.inl (vp_updL og 0 (Int32.toInt64 (zRch (b o) S))))))] ++ ([(o9, .inr (6, [u0, .ref a.1, u2, u3, u4, u5, u6, u7]))] ++ (gmW G a h b))) := by
  refine zMetN_of (cc := cL_player) (maxL := 5) (ret := (some .int)) (hh := [(0, 10, 13, 28), (0, 10, 17, 13)]) (by decide) rfl (Nat.le_of_ble_eq_true rfl) ?_
  intro p e s m below meth c A ls hx hb hr htb hml hown hts hK hA hE hN hTh hlocks hin hM hl
  have hown : s.vm.findClass RL = some m.cls := hown
  have hl : lv_has ls 5 [(0, .ref o9), (1, .int (nI o)), (2, .int 7), (3, .ref oa)] := hl
  refine lv_aload_n hx hb dL_player_0 rfl (lv_at hl 3 rfl) ?_
  refine lv_iconst (v := 0) hx hb dL_player_1 (by decide) ?_
  refine lv_aload_n hx hb dL_player_2 rfl (lv_at hl 0 rfl) ?_
  refine lv_iload_n hx hb dL_player_3 rfl (lv_at hl 1 rfl) ?_
  refine lv_iload_n hx hb dL_player_4 rfl (lv_at hl 2 rfl) ?_
  refine z_callV (As := [.int (nI o), .int 7]) (rest := [.int 0, .ref oa]) (wc := ([(o9, .inr (6, [u0, .ref a.1, u2, u3, u4, u5, u6, u7]))] ++ (gmW G a h b))) (wr := [(oa, .inl (G.2 5, 1, .inr (.inl og)))]) (w1 := ([(o9, .inr (6, [u0, .ref a.1, u2, u3, u4, u5, u6, u7]))] ++ (gmW G a h b))) (ws' := [(oa, .inl (G.2 5, 1, .inr (.inl og)))] ++ ([(o9, .inr (6, [u0, .ref a.1, u2, u3, u4, u5, u6, u7]))] ++ (gmW G a h b))) ⟨hx, hb, hml, hown, hts⟩ (c_x_player0_7 l G o9 u0 u2 u3 u4 u5 u6 u7 a h b P t S e0 hG o ho) (cwV 2 hts gL_player_X6_player rfl rfl rfl (by decide +kernel) ⟨(Nat.le_of_ble_eq_true rfl), (Nat.le_of_ble_eq_true rfl)⟩) 6 rfl rfl rfl rfl hl.1 rfl (Nat.le_of_ble_eq_true rfl) dL_player_5 ⟨(Nat.le_of_ble_eq_true rfl), (Nat.le_of_ble_eq_true rfl)⟩ hK hE hA hM List.perm_append_comm List.perm_append_comm (fun H locs hM hz => ?_)
  refine lv_i2l (v := Int32.toInt64 (zRch (b o) S)) hx hb dL_player_8 rfl ?_
  refine z_last (ws' := [(oa, .inl (G.2 5, 1, .inr (.inl (vp_updL og 0 (Int32.toInt64 (zRch (b o) S))))))] ++ ([(o9, .inr (6, [u0, .ref a.1, u2, u3, u4, u5, u6, u7]))] ++ (gmW G a h b))) hx hb hK hM 0 rfl (vp_in_nI (n := 0) (by decide) (by decide)) dL_player_9 rfl (fun H locs hM => ?_)
  refine lv_goto (tgt := 21) hx hb dL_player_10 (by decide) ?_
  refine lv_iconst (v := 0) hx hb dL_player_21 (by decide) ?_
  exact z_iret hx hb hr hlocks dL_player_22 hM (Nat.le_of_ble_eq_true rfl) (Nat.le_of_ble_eq_true rfl) rfl
set_option maxHeartbeats 4000000 in
set_option maxRecDepth 100000 in
theorem w_x_player0_8 (l : Launch) (G : zC) (o9 : Nat) (u0 u2 u3 u4 u5 u6 u7 : Value) (a : zGA) (h : Nat → Int32) (b : Nat → Nat → Int32) (P t S e0 : Nat) (hG : zGs h b P t S e0) (o : Nat) (ho : o < P) (oa : Nat) (og : Nat → Int64) : zMetN l G yL_player wsL_player rmL_player [.ref o9, .int (nI o), .int 8, .ref oa] ([(oa, .inl (G.2 5, 1, .inr (.inl og)))] ++ ([(o9, .inr (6, [u0, .ref a.1, u2, u3, u4, u5, u6, u7]))] ++ (gmW G a h b))) (some (.int 0)) ([(oa, .inl (G.2 5, 1, .inr (.inl (vp_updL og 0 (Int32.toInt64 (zb (zIn (zRch (b o) S) (zSp (b o)))))))))] ++ ([(o9, .inr (6, [u0, .ref a.1, u2, u3, u4, u5, u6, u7]))] ++ (gmW G a h b))) := by
  refine zMetN_of (cc := cL_player) (maxL := 5) (ret := (some .int)) (hh := [(0, 10, 13, 28), (0, 10, 17, 13)]) (by decide) rfl (Nat.le_of_ble_eq_true rfl) ?_
  intro p e s m below meth c A ls hx hb hr htb hml hown hts hK hA hE hN hTh hlocks hin hM hl
  have hown : s.vm.findClass RL = some m.cls := hown
  have hl : lv_has ls 5 [(0, .ref o9), (1, .int (nI o)), (2, .int 8), (3, .ref oa)] := hl
  refine lv_aload_n hx hb dL_player_0 rfl (lv_at hl 3 rfl) ?_
  refine lv_iconst (v := 0) hx hb dL_player_1 (by decide) ?_
  refine lv_aload_n hx hb dL_player_2 rfl (lv_at hl 0 rfl) ?_
  refine lv_iload_n hx hb dL_player_3 rfl (lv_at hl 1 rfl) ?_
  refine lv_iload_n hx hb dL_player_4 rfl (lv_at hl 2 rfl) ?_
  refine z_callV (As := [.int (nI o), .int 8]) (rest := [.int 0, .ref oa]) (wc := ([(o9, .inr (6, [u0, .ref a.1, u2, u3, u4, u5, u6, u7]))] ++ (gmW G a h b))) (wr := [(oa, .inl (G.2 5, 1, .inr (.inl og)))]) (w1 := ([(o9, .inr (6, [u0, .ref a.1, u2, u3, u4, u5, u6, u7]))] ++ (gmW G a h b))) (ws' := [(oa, .inl (G.2 5, 1, .inr (.inl og)))] ++ ([(o9, .inr (6, [u0, .ref a.1, u2, u3, u4, u5, u6, u7]))] ++ (gmW G a h b))) ⟨hx, hb, hml, hown, hts⟩ (c_x_player0_8 l G o9 u0 u2 u3 u4 u5 u6 u7 a h b P t S e0 hG o ho) (cwV 2 hts gL_player_X6_player rfl rfl rfl (by decide +kernel) ⟨(Nat.le_of_ble_eq_true rfl), (Nat.le_of_ble_eq_true rfl)⟩) 6 rfl rfl rfl rfl hl.1 rfl (Nat.le_of_ble_eq_true rfl) dL_player_5 ⟨(Nat.le_of_ble_eq_true rfl), (Nat.le_of_ble_eq_true rfl)⟩ hK hE hA hM List.perm_append_comm List.perm_append_comm (fun H locs hM hz => ?_)
  refine lv_i2l (v := Int32.toInt64 (zb (zIn (zRch (b o) S) (zSp (b o))))) hx hb dL_player_8 rfl ?_
  refine z_last (ws' := [(oa, .inl (G.2 5, 1, .inr (.inl (vp_updL og 0 (Int32.toInt64 (zb (zIn (zRch (b o) S) (zSp (b o)))))))))] ++ ([(o9, .inr (6, [u0, .ref a.1, u2, u3, u4, u5, u6, u7]))] ++ (gmW G a h b))) hx hb hK hM 0 rfl (vp_in_nI (n := 0) (by decide) (by decide)) dL_player_9 rfl (fun H locs hM => ?_)
  refine lv_goto (tgt := 21) hx hb dL_player_10 (by decide) ?_
  refine lv_iconst (v := 0) hx hb dL_player_21 (by decide) ?_
  exact z_iret hx hb hr hlocks dL_player_22 hM (Nat.le_of_ble_eq_true rfl) (Nat.le_of_ble_eq_true rfl) rfl
set_option maxHeartbeats 4000000 in
set_option maxRecDepth 100000 in
theorem w_x_canShift1 (l : Launch) (G : zC) (hl0 : l.stackTraces = false) (o9 : Nat) (u0 u2 u3 u4 u5 u6 u7 : Value) (a : zGA) (h : Nat → Int32) (b : Nat → Nat → Int32) (i n9 w9 : Int32) (hc : (zHp h i && zLi n9) = false) (oa : Nat) (og : Nat → Int64) : zMetN l G yL_canShift wsL_canShift rmL_canShift [.ref o9, .int i, .int n9, .int w9, .ref oa] ([(oa, .inl (G.2 5, 1, .inr (.inl og)))] ++ ([(o9, .inr (6, [u0, .ref a.1, u2, u3, u4, u5, u6, u7]))] ++ (gmW G a h b))) (some (.int 1)) ([(oa, .inl (G.2 5, 1, .inr (.inl og)))] ++ ([(o9, .inr (6, [u0, .ref a.1, u2, u3, u4, u5, u6, u7]))] ++ (gmW G a h b))) := by
  refine zMetN_of (cc := cL_canShift) (maxL := 6) (ret := (some .int)) (hh := [(0, 19, 22, 28), (0, 19, 26, 13)]) (by decide) rfl (Nat.le_of_ble_eq_true rfl) ?_
  intro p e s m below meth c A ls hx hb hr htb hml hown hts hK hA hE hN hTh hlocks hin hM hl
  have hown : s.vm.findClass RL = some m.cls := hown
  have hl : lv_has ls 6 [(0, .ref o9), (1, .int i), (2, .int n9), (3, .int w9), (4, .ref oa)] := hl
  refine lv_aload hx hb dL_canShift_0 (lv_at hl 4 rfl) ?_
  refine lv_iconst (v := 0) hx hb dL_canShift_2 (by decide) ?_
  refine lv_aload_n hx hb dL_canShift_3 rfl (lv_at hl 0 rfl) ?_
  refine lv_iload_n hx hb dL_canShift_4 rfl (lv_at hl 1 rfl) ?_
  refine lv_iload_n hx hb dL_canShift_5 rfl (lv_at hl 2 rfl) ?_
  refine lv_iload_n hx hb dL_canShift_6 rfl (lv_at hl 3 rfl) ?_
  refine z_callVT (As := [.int i, .int n9, .int w9]) (rest := [.int 0, .ref oa]) (wc := ([(o9, .inr (6, [u0, .ref a.1, u2, u3, u4, u5, u6, u7]))] ++ (gmW G a h b))) (wr := [(oa, .inl (G.2 5, 1, .inr (.inl og)))]) ⟨hx, hb, hml, hown, hts⟩ (c_x_canShift1 l G hl0 o9 u0 u2 u3 u4 u5 u6 u7 a h b i n9 w9 hc) (cwV 3 hts gL_canShift_X6_canShift rfl rfl rfl (by decide +kernel) ⟨(Nat.le_of_ble_eq_true rfl), (Nat.le_of_ble_eq_true rfl)⟩) 6 rfl rfl rfl rfl hl.1 rfl (Nat.le_of_ble_eq_true rfl) dL_canShift_7 ⟨(Nat.le_of_ble_eq_true rfl), (Nat.le_of_ble_eq_true rfl)⟩ hK hE hTh hA hM List.perm_append_comm (fun qx9 ce H locs hM hce hcv hcl9 => ?_)
  refine vx_catch (own := RL) (name := "java/lang/IndexOutOfBoundsException") (E := "java/lang/IndexOutOfBoundsException") (ce := ce) hown [] ⟨0, 19, 22, 28⟩ [⟨0, 19, 26, 13⟩] (htb.trans rfl) (fun z h9 => by cases h9) rfl (by decide) (hts (.classLink RL 28 "java/lang/IndexOutOfBoundsException") (by decide +kernel)) (va_Nw.use rfl (hTh.2 "java/lang/IndexOutOfBoundsException" (List.mem_of_getElem? (i := 2) rfl))) hce hcv hcl9 ?_
  refine lv_astore (lv' := [(5, .ref qx9), (0, .ref o9), (1, .int i), (2, .int n9), (3, .int w9), (4, .ref oa)]) hx hb dL_canShift_22 hl (by decide) rfl (fun ls hl => ?_)
  refine lv_iconst (v := 1) hx hb dL_canShift_24 (by decide) ?_
  exact z_iret hx hb hr hlocks dL_canShift_25 hM (Nat.le_of_ble_eq_true rfl) (Nat.le_of_ble_eq_true rfl) rfl
set_option maxHeartbeats 4000000 in
set_option maxRecDepth 100000 in
theorem w_x_canShift2 (l : Launch) (G : zC) (hl0 : l.stackTraces = false) (o9 : Nat) (u0 u2 u3 u4 u5 u6 u7 : Value) (a : zGA) (h : Nat → Int32) (b : Nat → Nat → Int32) (i n9 w9 : Int32) (hi : zHp h i = true) (hn : zLi n9 = true) (hc : zDi w9 = false) (oa : Nat) (og : Nat → Int64) : zMetN l G yL_canShift wsL_canShift rmL_canShift [.ref o9, .int i, .int n9, .int w9, .ref oa] ([(oa, .inl (G.2 5, 1, .inr (.inl og)))] ++ ([(o9, .inr (6, [u0, .ref a.1, u2, u3, u4, u5, u6, u7]))] ++ (gmW G a h b))) (some (.int 2)) ([(oa, .inl (G.2 5, 1, .inr (.inl og)))] ++ ([(o9, .inr (6, [u0, .ref a.1, u2, u3, u4, u5, u6, u7]))] ++ (gmW G a h b))) := by
  refine zMetN_of (cc := cL_canShift) (maxL := 6) (ret := (some .int)) (hh := [(0, 19, 22, 28), (0, 19, 26, 13)]) (by decide) rfl (Nat.le_of_ble_eq_true rfl) ?_
  intro p e s m below meth c A ls hx hb hr htb hml hown hts hK hA hE hN hTh hlocks hin hM hl
  have hown : s.vm.findClass RL = some m.cls := hown
  have hl : lv_has ls 6 [(0, .ref o9), (1, .int i), (2, .int n9), (3, .int w9), (4, .ref oa)] := hl
  refine lv_aload hx hb dL_canShift_0 (lv_at hl 4 rfl) ?_
  refine lv_iconst (v := 0) hx hb dL_canShift_2 (by decide) ?_
  refine lv_aload_n hx hb dL_canShift_3 rfl (lv_at hl 0 rfl) ?_
  refine lv_iload_n hx hb dL_canShift_4 rfl (lv_at hl 1 rfl) ?_
  refine lv_iload_n hx hb dL_canShift_5 rfl (lv_at hl 2 rfl) ?_
  refine lv_iload_n hx hb dL_canShift_6 rfl (lv_at hl 3 rfl) ?_
  refine z_callVT (As := [.int i, .int n9, .int w9]) (rest := [.int 0, .ref oa]) (wc := ([(o9, .inr (6, [u0, .ref a.1, u2, u3, u4, u5, u6, u7]))] ++ (gmW G a h b))) (wr := [(oa, .inl (G.2 5, 1, .inr (.inl og)))]) ⟨hx, hb, hml, hown, hts⟩ (c_x_canShift2 l G hl0 o9 u0 u2 u3 u4 u5 u6 u7 a h b i n9 w9 hi hn hc) (cwV 3 hts gL_canShift_X6_canShift rfl rfl rfl (by decide +kernel) ⟨(Nat.le_of_ble_eq_true rfl), (Nat.le_of_ble_eq_true rfl)⟩) 6 rfl rfl rfl rfl hl.1 rfl (Nat.le_of_ble_eq_true rfl) dL_canShift_7 ⟨(Nat.le_of_ble_eq_true rfl), (Nat.le_of_ble_eq_true rfl)⟩ hK hE hTh hA hM List.perm_append_comm (fun qx9 ce H locs hM hce hcv hcl9 => ?_)
  refine vx_catch (own := RL) (name := "java/lang/IllegalArgumentException") (E := "java/lang/IllegalArgumentException") (ce := ce) hown [⟨0, 19, 22, 28⟩] ⟨0, 19, 26, 13⟩ [] (htb.trans rfl) (fun z h9 => by cases List.mem_singleton.mp h9; exact Or.inr ⟨by decide, "java/lang/IndexOutOfBoundsException", hts (.classLink RL 28 "java/lang/IndexOutOfBoundsException") (by decide +kernel), hN ("java/lang/IllegalArgumentException", "java/lang/IndexOutOfBoundsException") (List.mem_of_getElem? (i := 1) rfl)⟩) rfl (by decide) (hts (.classLink RL 13 "java/lang/IllegalArgumentException") (by decide +kernel)) (va_Nw.use rfl (hTh.2 "java/lang/IllegalArgumentException" (List.mem_of_getElem? (i := 0) rfl))) hce hcv hcl9 ?_
  refine lv_astore (lv' := [(5, .ref qx9), (0, .ref o9), (1, .int i), (2, .int n9), (3, .int w9), (4, .ref oa)]) hx hb dL_canShift_26 hl (by decide) rfl (fun ls hl => ?_)
  refine lv_iconst (v := 2) hx hb dL_canShift_28 (by decide) ?_
  exact z_iret hx hb hr hlocks dL_canShift_29 hM (Nat.le_of_ble_eq_true rfl) (Nat.le_of_ble_eq_true rfl) rfl
set_option maxHeartbeats 4000000 in
set_option maxRecDepth 100000 in
theorem w_x_canShift0 (l : Launch) (G : zC) (o9 : Nat) (u0 u2 u3 u4 u5 u6 u7 : Value) (a : zGA) (h : Nat → Int32) (b : Nat → Nat → Int32) (P t S e0 : Nat) (hG : zGs h b P t S e0) (o : Nat) (ho : o < P) (n9 w9 : Int32) (hn : zLi n9 = true) (hd : zDi w9 = true) (oa : Nat) (og : Nat → Int64) : zMetN l G yL_canShift wsL_canShift rmL_canShift [.ref o9, .int (nI o), .int n9, .int w9, .ref oa] ([(oa, .inl (G.2 5, 1, .inr (.inl og)))] ++ ([(o9, .inr (6, [u0, .ref a.1, u2, u3, u4, u5, u6, u7]))] ++ (gmW G a h b))) (some (.int 0)) ([(oa, .inl (G.2 5, 1, .inr (.inl (vp_updL og 0 (Int32.toInt64 (zb (zAl (b o) n9 w9)))))))] ++ ([(o9, .inr (6, [u0, .ref a.1, u2, u3, u4, u5, u6, u7]))] ++ (gmW G a h b))) := by
  have h0 := (c_x_canShift0 l G o9 u0 u2 u3 u4 u5 u6 u7 a h b P t S e0 hG o ho n9 w9 hn hd)
  revert h0
  generalize (zAl (b o) n9 w9) = bb
  intro h0
  cases bb with
  | false =>
    show zMetN l G yL_canShift wsL_canShift rmL_canShift [.ref o9, .int (nI o), .int n9, .int w9, .ref oa] ([(oa, .inl (G.2 5, 1, .inr (.inl og)))] ++ ([(o9, .inr (6, [u0, .ref a.1, u2, u3, u4, u5, u6, u7]))] ++ (gmW G a h b))) (some (.int 0)) ([(oa, .inl (G.2 5, 1, .inr (.inl (vp_updL og 0 (0 : Int64)))))] ++ ([(o9, .inr (6, [u0, .ref a.1, u2, u3, u4, u5, u6, u7]))] ++ (gmW G a h b)))
    refine zMetN_of (cc := cL_canShift) (maxL := 6) (ret := (some .int)) (hh := [(0, 19, 22, 28), (0, 19, 26, 13)]) (by decide) rfl (Nat.le_of_ble_eq_true rfl) ?_
    intro p e s m below meth c A ls hx hb hr htb hml hown hts hK hA hE hN hTh hlocks hin hM hl
    have hown : s.vm.findClass RL = some m.cls := hown
    have hl : lv_has ls 6 [(0, .ref o9), (1, .int (nI o)), (2, .int n9), (3, .int w9), (4, .ref oa)] := hl
    refine lv_aload hx hb dL_canShift_0 (lv_at hl 4 rfl) ?_
    refine lv_iconst (v := 0) hx hb dL_canShift_2 (by decide) ?_
    refine lv_aload_n hx hb dL_canShift_3 rfl (lv_at hl 0 rfl) ?_
    refine lv_iload_n hx hb dL_canShift_4 rfl (lv_at hl 1 rfl) ?_
    refine lv_iload_n hx hb dL_canShift_5 rfl (lv_at hl 2 rfl) ?_
    refine lv_iload_n hx hb dL_canShift_6 rfl (lv_at hl 3 rfl) ?_
    refine z_callV (As := [.int (nI o), .int n9, .int w9]) (rest := [.int 0, .ref oa]) (wc := ([(o9, .inr (6, [u0, .ref a.1, u2, u3, u4, u5, u6, u7]))] ++ (gmW G a h b))) (wr := [(oa, .inl (G.2 5, 1, .inr (.inl og)))]) (w1 := ([(o9, .inr (6, [u0, .ref a.1, u2, u3, u4, u5, u6, u7]))] ++ (gmW G a h b))) (ws' := [(oa, .inl (G.2 5, 1, .inr (.inl og)))] ++ ([(o9, .inr (6, [u0, .ref a.1, u2, u3, u4, u5, u6, u7]))] ++ (gmW G a h b))) ⟨hx, hb, hml, hown, hts⟩ h0 (cwV 3 hts gL_canShift_X6_canShift rfl rfl rfl (by decide +kernel) ⟨(Nat.le_of_ble_eq_true rfl), (Nat.le_of_ble_eq_true rfl)⟩) 6 rfl rfl rfl rfl hl.1 rfl (Nat.le_of_ble_eq_true rfl) dL_canShift_7 ⟨(Nat.le_of_ble_eq_true rfl), (Nat.le_of_ble_eq_true rfl)⟩ hK hE hA hM List.perm_append_comm List.perm_append_comm (fun H locs hM hz => ?_)
    refine z_ifeq (tgt := 17) hx hb dL_canShift_10 (by decide) (fun h9 => ?_) (fun h9 => by cases h9)
    refine lv_lconst (v := 0) hx hb dL_canShift_17 (by decide) ?_
    refine z_last (ws' := [(oa, .inl (G.2 5, 1, .inr (.inl (vp_updL og 0 (0 : Int64)))))] ++ ([(o9, .inr (6, [u0, .ref a.1, u2, u3, u4, u5, u6, u7]))] ++ (gmW G a h b))) hx hb hK hM 0 rfl (vp_in_nI (n := 0) (by decide) (by decide)) dL_canShift_18 rfl (fun H locs hM => ?_)
    refine lv_goto (tgt := 30) hx hb dL_canShift_19 (by decide) ?_
    refine lv_iconst (v := 0) hx hb dL_canShift_30 (by decide) ?_
    exact z_iret hx hb hr hlocks dL_canShift_31 hM (Nat.le_of_ble_eq_true rfl) (Nat.le_of_ble_eq_true rfl) rfl
  | true =>
    show zMetN l G yL_canShift wsL_canShift rmL_canShift [.ref o9, .int (nI o), .int n9, .int w9, .ref oa] ([(oa, .inl (G.2 5, 1, .inr (.inl og)))] ++ ([(o9, .inr (6, [u0, .ref a.1, u2, u3, u4, u5, u6, u7]))] ++ (gmW G a h b))) (some (.int 0)) ([(oa, .inl (G.2 5, 1, .inr (.inl (vp_updL og 0 (1 : Int64)))))] ++ ([(o9, .inr (6, [u0, .ref a.1, u2, u3, u4, u5, u6, u7]))] ++ (gmW G a h b)))
    refine zMetN_of (cc := cL_canShift) (maxL := 6) (ret := (some .int)) (hh := [(0, 19, 22, 28), (0, 19, 26, 13)]) (by decide) rfl (Nat.le_of_ble_eq_true rfl) ?_
    intro p e s m below meth c A ls hx hb hr htb hml hown hts hK hA hE hN hTh hlocks hin hM hl
    have hown : s.vm.findClass RL = some m.cls := hown
    have hl : lv_has ls 6 [(0, .ref o9), (1, .int (nI o)), (2, .int n9), (3, .int w9), (4, .ref oa)] := hl
    refine lv_aload hx hb dL_canShift_0 (lv_at hl 4 rfl) ?_
    refine lv_iconst (v := 0) hx hb dL_canShift_2 (by decide) ?_
    refine lv_aload_n hx hb dL_canShift_3 rfl (lv_at hl 0 rfl) ?_
    refine lv_iload_n hx hb dL_canShift_4 rfl (lv_at hl 1 rfl) ?_
    refine lv_iload_n hx hb dL_canShift_5 rfl (lv_at hl 2 rfl) ?_
    refine lv_iload_n hx hb dL_canShift_6 rfl (lv_at hl 3 rfl) ?_
    refine z_callV (As := [.int (nI o), .int n9, .int w9]) (rest := [.int 0, .ref oa]) (wc := ([(o9, .inr (6, [u0, .ref a.1, u2, u3, u4, u5, u6, u7]))] ++ (gmW G a h b))) (wr := [(oa, .inl (G.2 5, 1, .inr (.inl og)))]) (w1 := ([(o9, .inr (6, [u0, .ref a.1, u2, u3, u4, u5, u6, u7]))] ++ (gmW G a h b))) (ws' := [(oa, .inl (G.2 5, 1, .inr (.inl og)))] ++ ([(o9, .inr (6, [u0, .ref a.1, u2, u3, u4, u5, u6, u7]))] ++ (gmW G a h b))) ⟨hx, hb, hml, hown, hts⟩ h0 (cwV 3 hts gL_canShift_X6_canShift rfl rfl rfl (by decide +kernel) ⟨(Nat.le_of_ble_eq_true rfl), (Nat.le_of_ble_eq_true rfl)⟩) 6 rfl rfl rfl rfl hl.1 rfl (Nat.le_of_ble_eq_true rfl) dL_canShift_7 ⟨(Nat.le_of_ble_eq_true rfl), (Nat.le_of_ble_eq_true rfl)⟩ hK hE hA hM List.perm_append_comm List.perm_append_comm (fun H locs hM hz => ?_)
    refine z_ifeq (tgt := 17) hx hb dL_canShift_10 (by decide) (fun h9 => by cases h9) (fun h9 => ?_)
    refine lv_lconst (v := 1) hx hb dL_canShift_13 (by decide) ?_
    refine lv_goto (tgt := 18) hx hb dL_canShift_14 (by decide) ?_
    refine z_last (ws' := [(oa, .inl (G.2 5, 1, .inr (.inl (vp_updL og 0 (1 : Int64)))))] ++ ([(o9, .inr (6, [u0, .ref a.1, u2, u3, u4, u5, u6, u7]))] ++ (gmW G a h b))) hx hb hK hM 0 rfl (vp_in_nI (n := 0) (by decide) (by decide)) dL_canShift_18 rfl (fun H locs hM => ?_)
    refine lv_goto (tgt := 30) hx hb dL_canShift_19 (by decide) ?_
    refine lv_iconst (v := 0) hx hb dL_canShift_30 (by decide) ?_
    exact z_iret hx hb hr hlocks dL_canShift_31 hM (Nat.le_of_ble_eq_true rfl) (Nat.le_of_ble_eq_true rfl) rfl
set_option maxHeartbeats 4000000 in
set_option maxRecDepth 100000 in
theorem w_x_steps1 (l : Launch) (G : zC) (hl0 : l.stackTraces = false) (o9 : Nat) (u0 u2 u3 u4 u5 u6 u7 : Value) (a : zGA) (h : Nat → Int32) (b : Nat → Nat → Int32) (i n9 : Int32) (hc : (zHp h i && zPl n9) = false) (oa : Nat) (og : Nat → Int64) : zMetN l G yL_steps wsL_steps rmL_steps [.ref o9, .int i, .int n9, .ref oa] ([(oa, .inl (G.2 5, 1, .inr (.inl og)))] ++ ([(o9, .inr (6, [u0, .ref a.1, u2, u3, u4, u5, u6, u7]))] ++ (gmW G a h b))) (some (.int 1)) ([(oa, .inl (G.2 5, 1, .inr (.inl og)))] ++ ([(o9, .inr (6, [u0, .ref a.1, u2, u3, u4, u5, u6, u7]))] ++ (gmW G a h b))) := by
  refine zMetN_of (cc := cL_steps) (maxL := 5) (ret := (some .int)) (hh := [(0, 10, 13, 28)]) (by decide) rfl (Nat.le_of_ble_eq_true rfl) ?_
  intro p e s m below meth c A ls hx hb hr htb hml hown hts hK hA hE hN hTh hlocks hin hM hl
  have hown : s.vm.findClass RL = some m.cls := hown
  have hl : lv_has ls 5 [(0, .ref o9), (1, .int i), (2, .int n9), (3, .ref oa)] := hl
  refine lv_aload_n hx hb dL_steps_0 rfl (lv_at hl 3 rfl) ?_
  refine lv_iconst (v := 0) hx hb dL_steps_1 (by decide) ?_
  refine lv_aload_n hx hb dL_steps_2 rfl (lv_at hl 0 rfl) ?_
  refine lv_iload_n hx hb dL_steps_3 rfl (lv_at hl 1 rfl) ?_
  refine lv_iload_n hx hb dL_steps_4 rfl (lv_at hl 2 rfl) ?_
  refine z_callVT (As := [.int i, .int n9]) (rest := [.int 0, .ref oa]) (wc := ([(o9, .inr (6, [u0, .ref a.1, u2, u3, u4, u5, u6, u7]))] ++ (gmW G a h b))) (wr := [(oa, .inl (G.2 5, 1, .inr (.inl og)))]) ⟨hx, hb, hml, hown, hts⟩ (c_x_steps1 l G hl0 o9 u0 u2 u3 u4 u5 u6 u7 a h b i n9 hc) (cwV 2 hts gL_steps_X6_steps rfl rfl rfl (by decide +kernel) ⟨(Nat.le_of_ble_eq_true rfl), (Nat.le_of_ble_eq_true rfl)⟩) 6 rfl rfl rfl rfl hl.1 rfl (Nat.le_of_ble_eq_true rfl) dL_steps_5 ⟨(Nat.le_of_ble_eq_true rfl), (Nat.le_of_ble_eq_true rfl)⟩ hK hE hTh hA hM List.perm_append_comm (fun qx9 ce H locs hM hce hcv hcl9 => ?_)
  refine vx_catch (own := RL) (name := "java/lang/IndexOutOfBoundsException") (E := "java/lang/IndexOutOfBoundsException") (ce := ce) hown [] ⟨0, 10, 13, 28⟩ [] (htb.trans rfl) (fun z h9 => by cases h9) rfl (by decide) (hts (.classLink RL 28 "java/lang/IndexOutOfBoundsException") (by decide +kernel)) (va_Nw.use rfl (hTh.2 "java/lang/IndexOutOfBoundsException" (List.mem_of_getElem? (i := 2) rfl))) hce hcv hcl9 ?_
  refine lv_astore (lv' := [(4, .ref qx9), (0, .ref o9), (1, .int i), (2, .int n9), (3, .ref oa)]) hx hb dL_steps_13 hl (by decide) rfl (fun ls hl => ?_)
  refine lv_iconst (v := 1) hx hb dL_steps_15 (by decide) ?_
  exact z_iret hx hb hr hlocks dL_steps_16 hM (Nat.le_of_ble_eq_true rfl) (Nat.le_of_ble_eq_true rfl) rfl
set_option maxHeartbeats 4000000 in
set_option maxRecDepth 100000 in
theorem w_x_steps0 (l : Launch) (G : zC) (o9 : Nat) (u0 u2 u3 u4 u5 u6 u7 : Value) (a : zGA) (h : Nat → Int32) (b : Nat → Nat → Int32) (P t S e0 : Nat) (hG : zGs h b P t S e0) (o : Nat) (ho : o < P) (n9 : Int32) (hn : zPl n9 = true) (oa : Nat) (og : Nat → Int64) : zMetN l G yL_steps wsL_steps rmL_steps [.ref o9, .int (nI o), .int n9, .ref oa] ([(oa, .inl (G.2 5, 1, .inr (.inl og)))] ++ ([(o9, .inr (6, [u0, .ref a.1, u2, u3, u4, u5, u6, u7]))] ++ (gmW G a h b))) (some (.int 0)) ([(oa, .inl (G.2 5, 1, .inr (.inl (vp_updL og 0 (Int32.toInt64 (zSts (b o) n9))))))] ++ ([(o9, .inr (6, [u0, .ref a.1, u2, u3, u4, u5, u6, u7]))] ++ (gmW G a h b))) := by
  refine zMetN_of (cc := cL_steps) (maxL := 5) (ret := (some .int)) (hh := [(0, 10, 13, 28)]) (by decide) rfl (Nat.le_of_ble_eq_true rfl) ?_
  intro p e s m below meth c A ls hx hb hr htb hml hown hts hK hA hE hN hTh hlocks hin hM hl
  have hown : s.vm.findClass RL = some m.cls := hown
  have hl : lv_has ls 5 [(0, .ref o9), (1, .int (nI o)), (2, .int n9), (3, .ref oa)] := hl
  refine lv_aload_n hx hb dL_steps_0 rfl (lv_at hl 3 rfl) ?_
  refine lv_iconst (v := 0) hx hb dL_steps_1 (by decide) ?_
  refine lv_aload_n hx hb dL_steps_2 rfl (lv_at hl 0 rfl) ?_
  refine lv_iload_n hx hb dL_steps_3 rfl (lv_at hl 1 rfl) ?_
  refine lv_iload_n hx hb dL_steps_4 rfl (lv_at hl 2 rfl) ?_
  refine z_callV (As := [.int (nI o), .int n9]) (rest := [.int 0, .ref oa]) (wc := ([(o9, .inr (6, [u0, .ref a.1, u2, u3, u4, u5, u6, u7]))] ++ (gmW G a h b))) (wr := [(oa, .inl (G.2 5, 1, .inr (.inl og)))]) (w1 := ([(o9, .inr (6, [u0, .ref a.1, u2, u3, u4, u5, u6, u7]))] ++ (gmW G a h b))) (ws' := [(oa, .inl (G.2 5, 1, .inr (.inl og)))] ++ ([(o9, .inr (6, [u0, .ref a.1, u2, u3, u4, u5, u6, u7]))] ++ (gmW G a h b))) ⟨hx, hb, hml, hown, hts⟩ (c_x_steps0 l G o9 u0 u2 u3 u4 u5 u6 u7 a h b P t S e0 hG o ho n9 hn) (cwV 2 hts gL_steps_X6_steps rfl rfl rfl (by decide +kernel) ⟨(Nat.le_of_ble_eq_true rfl), (Nat.le_of_ble_eq_true rfl)⟩) 6 rfl rfl rfl rfl hl.1 rfl (Nat.le_of_ble_eq_true rfl) dL_steps_5 ⟨(Nat.le_of_ble_eq_true rfl), (Nat.le_of_ble_eq_true rfl)⟩ hK hE hA hM List.perm_append_comm List.perm_append_comm (fun H locs hM hz => ?_)
  refine lv_i2l (v := Int32.toInt64 (zSts (b o) n9)) hx hb dL_steps_8 rfl ?_
  refine z_last (ws' := [(oa, .inl (G.2 5, 1, .inr (.inl (vp_updL og 0 (Int32.toInt64 (zSts (b o) n9))))))] ++ ([(o9, .inr (6, [u0, .ref a.1, u2, u3, u4, u5, u6, u7]))] ++ (gmW G a h b))) hx hb hK hM 0 rfl (vp_in_nI (n := 0) (by decide) (by decide)) dL_steps_9 rfl (fun H locs hM => ?_)
  refine lv_goto (tgt := 17) hx hb dL_steps_10 (by decide) ?_
  refine lv_iconst (v := 0) hx hb dL_steps_17 (by decide) ?_
  exact z_iret hx hb hr hlocks dL_steps_18 hM (Nat.le_of_ble_eq_true rfl) (Nat.le_of_ble_eq_true rfl) rfl
set_option maxHeartbeats 4000000 in
set_option maxRecDepth 100000 in
theorem w_x_go1 (l : Launch) (G : zC) (hl0 : l.stackTraces = false) (o9 : Nat) (u0 u2 u3 u4 u5 u6 u7 : Value) (a : zGA) (h : Nat → Int32) (b : Nat → Nat → Int32) (k9 : Int32) (hc : zPl k9 = false) (oa : Nat) (og : Nat → Int64) : zMetN l G yL_go wsL_go rmL_go [.ref o9, .int k9, .ref oa] ([(oa, .inl (G.2 5, 1, .inr (.inl og)))] ++ ([(o9, .inr (6, [u0, .ref a.1, u2, u3, u4, u5, u6, u7]))] ++ (gmW G a h b))) (some (.int 1)) ([(oa, .inl (G.2 5, 1, .inr (.inl og)))] ++ ([(o9, .inr (6, [u0, .ref a.1, u2, u3, u4, u5, u6, u7]))] ++ (gmW G a h b))) := by
  refine zMetN_of (cc := cL_go) (maxL := 4) (ret := (some .int)) (hh := [(0, 9, 12, 28), (0, 9, 15, 15)]) (by decide) rfl (Nat.le_of_ble_eq_true rfl) ?_
  intro p e s m below meth c A ls hx hb hr htb hml hown hts hK hA hE hN hTh hlocks hin hM hl
  have hown : s.vm.findClass RL = some m.cls := hown
  have hl : lv_has ls 4 [(0, .ref o9), (1, .int k9), (2, .ref oa)] := hl
  refine lv_aload_n hx hb dL_go_0 rfl (lv_at hl 2 rfl) ?_
  refine lv_iconst (v := 0) hx hb dL_go_1 (by decide) ?_
  refine lv_aload_n hx hb dL_go_2 rfl (lv_at hl 0 rfl) ?_
  refine lv_iload_n hx hb dL_go_3 rfl (lv_at hl 1 rfl) ?_
  refine z_callVT (As := [.int k9]) (rest := [.int 0, .ref oa]) (wc := ([(o9, .inr (6, [u0, .ref a.1, u2, u3, u4, u5, u6, u7]))] ++ (gmW G a h b))) (wr := [(oa, .inl (G.2 5, 1, .inr (.inl og)))]) ⟨hx, hb, hml, hown, hts⟩ (c_x_go1 l G hl0 o9 u0 u2 u3 u4 u5 u6 u7 a h b k9 hc) (cwV 1 hts gL_go_X6_go rfl rfl rfl (by decide +kernel) ⟨(Nat.le_of_ble_eq_true rfl), (Nat.le_of_ble_eq_true rfl)⟩) 6 rfl rfl rfl rfl hl.1 rfl (Nat.le_of_ble_eq_true rfl) dL_go_4 ⟨(Nat.le_of_ble_eq_true rfl), (Nat.le_of_ble_eq_true rfl)⟩ hK hE hTh hA hM List.perm_append_comm (fun qx9 ce H locs hM hce hcv hcl9 => ?_)
  refine vx_catch (own := RL) (name := "java/lang/IndexOutOfBoundsException") (E := "java/lang/IndexOutOfBoundsException") (ce := ce) hown [] ⟨0, 9, 12, 28⟩ [⟨0, 9, 15, 15⟩] (htb.trans rfl) (fun z h9 => by cases h9) rfl (by decide) (hts (.classLink RL 28 "java/lang/IndexOutOfBoundsException") (by decide +kernel)) (va_Nw.use rfl (hTh.2 "java/lang/IndexOutOfBoundsException" (List.mem_of_getElem? (i := 2) rfl))) hce hcv hcl9 ?_
  refine lv_astore_n (lv' := [(3, .ref qx9), (0, .ref o9), (1, .int k9), (2, .ref oa)]) hx hb dL_go_12 rfl hl (by decide) rfl (fun ls hl => ?_)
  refine lv_iconst (v := 1) hx hb dL_go_13 (by decide) ?_
  exact z_iret hx hb hr hlocks dL_go_14 hM (Nat.le_of_ble_eq_true rfl) (Nat.le_of_ble_eq_true rfl) rfl
set_option maxHeartbeats 4000000 in
set_option maxRecDepth 100000 in
theorem w_x_go2 (l : Launch) (G : zC) (hl0 : l.stackTraces = false) (o9 : Nat) (u0 u2 u3 u4 u5 u6 u7 : Value) (a : zGA) (h : Nat → Int32) (b : Nat → Nat → Int32) (P t S e0 : Nat) (hG : zGs h b P t S e0) (k9 : Int32) (hp9 : zPl k9 = true) (hc : zMg h b S t k9 = false) (oa : Nat) (og : Nat → Int64) : zMetN l G yL_go wsL_go rmL_go [.ref o9, .int k9, .ref oa] ([(oa, .inl (G.2 5, 1, .inr (.inl og)))] ++ ([(o9, .inr (6, [u0, .ref a.1, u2, u3, u4, u5, u6, u7]))] ++ (gmW G a h b))) (some (.int 2)) ([(oa, .inl (G.2 5, 1, .inr (.inl og)))] ++ ([(o9, .inr (6, [u0, .ref a.1, u2, u3, u4, u5, u6, u7]))] ++ (gmW G a h b))) := by
  refine zMetN_of (cc := cL_go) (maxL := 4) (ret := (some .int)) (hh := [(0, 9, 12, 28), (0, 9, 15, 15)]) (by decide) rfl (Nat.le_of_ble_eq_true rfl) ?_
  intro p e s m below meth c A ls hx hb hr htb hml hown hts hK hA hE hN hTh hlocks hin hM hl
  have hown : s.vm.findClass RL = some m.cls := hown
  have hl : lv_has ls 4 [(0, .ref o9), (1, .int k9), (2, .ref oa)] := hl
  refine lv_aload_n hx hb dL_go_0 rfl (lv_at hl 2 rfl) ?_
  refine lv_iconst (v := 0) hx hb dL_go_1 (by decide) ?_
  refine lv_aload_n hx hb dL_go_2 rfl (lv_at hl 0 rfl) ?_
  refine lv_iload_n hx hb dL_go_3 rfl (lv_at hl 1 rfl) ?_
  refine z_callVT (As := [.int k9]) (rest := [.int 0, .ref oa]) (wc := ([(o9, .inr (6, [u0, .ref a.1, u2, u3, u4, u5, u6, u7]))] ++ (gmW G a h b))) (wr := [(oa, .inl (G.2 5, 1, .inr (.inl og)))]) ⟨hx, hb, hml, hown, hts⟩ (c_x_go2 l G hl0 o9 u0 u2 u3 u4 u5 u6 u7 a h b P t S e0 hG k9 hp9 hc) (cwV 1 hts gL_go_X6_go rfl rfl rfl (by decide +kernel) ⟨(Nat.le_of_ble_eq_true rfl), (Nat.le_of_ble_eq_true rfl)⟩) 6 rfl rfl rfl rfl hl.1 rfl (Nat.le_of_ble_eq_true rfl) dL_go_4 ⟨(Nat.le_of_ble_eq_true rfl), (Nat.le_of_ble_eq_true rfl)⟩ hK hE hTh hA hM List.perm_append_comm (fun qx9 ce H locs hM hce hcv hcl9 => ?_)
  refine vx_catch (own := RL) (name := "java/lang/IllegalStateException") (E := "java/lang/IllegalStateException") (ce := ce) hown [⟨0, 9, 12, 28⟩] ⟨0, 9, 15, 15⟩ [] (htb.trans rfl) (fun z h9 => by cases List.mem_singleton.mp h9; exact Or.inr ⟨by decide, "java/lang/IndexOutOfBoundsException", hts (.classLink RL 28 "java/lang/IndexOutOfBoundsException") (by decide +kernel), hN ("java/lang/IllegalStateException", "java/lang/IndexOutOfBoundsException") (List.mem_of_getElem? (i := 2) rfl)⟩) rfl (by decide) (hts (.classLink RL 15 "java/lang/IllegalStateException") (by decide +kernel)) (va_Nw.use rfl (hTh.2 "java/lang/IllegalStateException" (List.mem_of_getElem? (i := 1) rfl))) hce hcv hcl9 ?_
  refine lv_astore_n (lv' := [(3, .ref qx9), (0, .ref o9), (1, .int k9), (2, .ref oa)]) hx hb dL_go_15 rfl hl (by decide) rfl (fun ls hl => ?_)
  refine lv_iconst (v := 2) hx hb dL_go_16 (by decide) ?_
  exact z_iret hx hb hr hlocks dL_go_17 hM (Nat.le_of_ble_eq_true rfl) (Nat.le_of_ble_eq_true rfl) rfl
set_option maxHeartbeats 4000000 in
set_option maxRecDepth 100000 in
theorem w_x_go0 (l : Launch) (G : zC) (o9 : Nat) (u0 u2 u3 u4 u6 u7 : Value) (mq mz mk mx : Nat) (ga : Nat → zGA) (mh : Nat → Nat → Int32) (mb : Nat → Nat → Nat → Int32) (a : zGA) (h : Nat → Int32) (b : Nat → Nat → Int32) (hx14 : mx < 14) (hk14 : mk ≤ 14) (P t S e0 : Nat) (hG : zGs h b P t S e0) (j : Nat) (hj : j < 9) (hc : zMg h b S t (nI j) = true) (oa : Nat) (og : Nat → Int64) : zMetN l G yL_go wsL_go rmL_go [.ref o9, .int (nI j), .ref oa] ([(oa, .inl (G.2 5, 1, .inr (.inl og)))] ++ ([(o9, .inr (6, [u0, .ref a.1, u2, u3, u4, .ref mq, u6, u7]))] ++ ((mmW G mq mz ga mk mx mh mb) ++ (gmW G a h b)))) (some (.int 0)) ([(oa, .inl (G.2 5, 1, .inr (.inl (vp_updL og 0 (Int32.toInt64 (zLr (b t) j))))))] ++ ([(o9, .inr (6, [u0, .ref a.1, u2, u3, u4, .ref mq, u6, u7]))] ++ ((mmW G mq mz ga (zMi mk) (zNe mx) (va_up mh mx h) (va_up mb mx b)) ++ (gmW G a (zEtH h (zGoB b t j) t P) (zEtB h (zGoB b t j) t P))))) := by
  refine zMetN_of (cc := cL_go) (maxL := 4) (ret := (some .int)) (hh := [(0, 9, 12, 28), (0, 9, 15, 15)]) (by decide) rfl (Nat.le_of_ble_eq_true rfl) ?_
  intro p e s m below meth c A ls hx hb hr htb hml hown hts hK hA hE hN hTh hlocks hin hM hl
  have hown : s.vm.findClass RL = some m.cls := hown
  have hl : lv_has ls 4 [(0, .ref o9), (1, .int (nI j)), (2, .ref oa)] := hl
  refine lv_aload_n hx hb dL_go_0 rfl (lv_at hl 2 rfl) ?_
  refine lv_iconst (v := 0) hx hb dL_go_1 (by decide) ?_
  refine lv_aload_n hx hb dL_go_2 rfl (lv_at hl 0 rfl) ?_
  refine lv_iload_n hx hb dL_go_3 rfl (lv_at hl 1 rfl) ?_
  refine z_callV (As := [.int (nI j)]) (rest := [.int 0, .ref oa]) (wc := ([(o9, .inr (6, [u0, .ref a.1, u2, u3, u4, .ref mq, u6, u7]))] ++ ((mmW G mq mz ga mk mx mh mb) ++ (gmW G a h b)))) (wr := [(oa, .inl (G.2 5, 1, .inr (.inl og)))]) (w1 := ([(o9, .inr (6, [u0, .ref a.1, u2, u3, u4, .ref mq, u6, u7]))] ++ ((mmW G mq mz ga (zMi mk) (zNe mx) (va_up mh mx h) (va_up mb mx b)) ++ (gmW G a (zEtH h (zGoB b t j) t P) (zEtB h (zGoB b t j) t P))))) (ws' := [(oa, .inl (G.2 5, 1, .inr (.inl og)))] ++ ([(o9, .inr (6, [u0, .ref a.1, u2, u3, u4, .ref mq, u6, u7]))] ++ ((mmW G mq mz ga (zMi mk) (zNe mx) (va_up mh mx h) (va_up mb mx b)) ++ (gmW G a (zEtH h (zGoB b t j) t P) (zEtB h (zGoB b t j) t P))))) ⟨hx, hb, hml, hown, hts⟩ (c_x_go0 l G o9 u0 u2 u3 u4 u6 u7 mq mz mk mx ga mh mb a h b hx14 hk14 P t S e0 hG j hj hc) (cwV 1 hts gL_go_X6_go rfl rfl rfl (by decide +kernel) ⟨(Nat.le_of_ble_eq_true rfl), (Nat.le_of_ble_eq_true rfl)⟩) 6 rfl rfl rfl rfl hl.1 rfl (Nat.le_of_ble_eq_true rfl) dL_go_4 ⟨(Nat.le_of_ble_eq_true rfl), (Nat.le_of_ble_eq_true rfl)⟩ hK hE hA hM List.perm_append_comm List.perm_append_comm (fun H locs hM hz => ?_)
  refine lv_i2l (v := Int32.toInt64 (zLr (b t) j)) hx hb dL_go_7 rfl ?_
  refine z_last (ws' := [(oa, .inl (G.2 5, 1, .inr (.inl (vp_updL og 0 (Int32.toInt64 (zLr (b t) j))))))] ++ ([(o9, .inr (6, [u0, .ref a.1, u2, u3, u4, .ref mq, u6, u7]))] ++ ((mmW G mq mz ga (zMi mk) (zNe mx) (va_up mh mx h) (va_up mb mx b)) ++ (gmW G a (zEtH h (zGoB b t j) t P) (zEtB h (zGoB b t j) t P))))) hx hb hK hM 0 rfl (vp_in_nI (n := 0) (by decide) (by decide)) dL_go_8 rfl (fun H locs hM => ?_)
  refine lv_goto (tgt := 18) hx hb dL_go_9 (by decide) ?_
  refine lv_iconst (v := 0) hx hb dL_go_18 (by decide) ?_
  exact z_iret hx hb hr hlocks dL_go_19 hM (Nat.le_of_ble_eq_true rfl) (Nat.le_of_ble_eq_true rfl) rfl
set_option maxHeartbeats 4000000 in
set_option maxRecDepth 100000 in
theorem w_x_lock1 (l : Launch) (G : zC) (hl0 : l.stackTraces = false) (o9 : Nat) (u0 u2 u3 u4 u5 u6 u7 : Value) (a : zGA) (h : Nat → Int32) (b : Nat → Nat → Int32) (k9 : Int32) (hc : zLi k9 = false) (oa : Nat) (og : Nat → Int64) : zMetN l G yL_lock wsL_lock rmL_lock [.ref o9, .int k9, .ref oa] ([(oa, .inl (G.2 5, 1, .inr (.inl og)))] ++ ([(o9, .inr (6, [u0, .ref a.1, u2, u3, u4, u5, u6, u7]))] ++ (gmW G a h b))) (some (.int 1)) ([(oa, .inl (G.2 5, 1, .inr (.inl og)))] ++ ([(o9, .inr (6, [u0, .ref a.1, u2, u3, u4, u5, u6, u7]))] ++ (gmW G a h b))) := by
  refine zMetN_of (cc := cL_lock) (maxL := 4) (ret := (some .int)) (hh := [(0, 9, 12, 28), (0, 9, 15, 15)]) (by decide) rfl (Nat.le_of_ble_eq_true rfl) ?_
  intro p e s m below meth c A ls hx hb hr htb hml hown hts hK hA hE hN hTh hlocks hin hM hl
  have hown : s.vm.findClass RL = some m.cls := hown
  have hl : lv_has ls 4 [(0, .ref o9), (1, .int k9), (2, .ref oa)] := hl
  refine lv_aload_n hx hb dL_lock_0 rfl (lv_at hl 2 rfl) ?_
  refine lv_iconst (v := 0) hx hb dL_lock_1 (by decide) ?_
  refine lv_aload_n hx hb dL_lock_2 rfl (lv_at hl 0 rfl) ?_
  refine lv_iload_n hx hb dL_lock_3 rfl (lv_at hl 1 rfl) ?_
  refine z_callVT (As := [.int k9]) (rest := [.int 0, .ref oa]) (wc := ([(o9, .inr (6, [u0, .ref a.1, u2, u3, u4, u5, u6, u7]))] ++ (gmW G a h b))) (wr := [(oa, .inl (G.2 5, 1, .inr (.inl og)))]) ⟨hx, hb, hml, hown, hts⟩ (c_x_lock1 l G hl0 o9 u0 u2 u3 u4 u5 u6 u7 a h b k9 hc) (cwV 1 hts gL_lock_X6_lock rfl rfl rfl (by decide +kernel) ⟨(Nat.le_of_ble_eq_true rfl), (Nat.le_of_ble_eq_true rfl)⟩) 6 rfl rfl rfl rfl hl.1 rfl (Nat.le_of_ble_eq_true rfl) dL_lock_4 ⟨(Nat.le_of_ble_eq_true rfl), (Nat.le_of_ble_eq_true rfl)⟩ hK hE hTh hA hM List.perm_append_comm (fun qx9 ce H locs hM hce hcv hcl9 => ?_)
  refine vx_catch (own := RL) (name := "java/lang/IndexOutOfBoundsException") (E := "java/lang/IndexOutOfBoundsException") (ce := ce) hown [] ⟨0, 9, 12, 28⟩ [⟨0, 9, 15, 15⟩] (htb.trans rfl) (fun z h9 => by cases h9) rfl (by decide) (hts (.classLink RL 28 "java/lang/IndexOutOfBoundsException") (by decide +kernel)) (va_Nw.use rfl (hTh.2 "java/lang/IndexOutOfBoundsException" (List.mem_of_getElem? (i := 2) rfl))) hce hcv hcl9 ?_
  refine lv_astore_n (lv' := [(3, .ref qx9), (0, .ref o9), (1, .int k9), (2, .ref oa)]) hx hb dL_lock_12 rfl hl (by decide) rfl (fun ls hl => ?_)
  refine lv_iconst (v := 1) hx hb dL_lock_13 (by decide) ?_
  exact z_iret hx hb hr hlocks dL_lock_14 hM (Nat.le_of_ble_eq_true rfl) (Nat.le_of_ble_eq_true rfl) rfl
set_option maxHeartbeats 4000000 in
set_option maxRecDepth 100000 in
theorem w_x_lock2 (l : Launch) (G : zC) (hl0 : l.stackTraces = false) (o9 : Nat) (u0 u2 u3 u4 u5 u6 u7 : Value) (a : zGA) (h : Nat → Int32) (b : Nat → Nat → Int32) (k9 : Int32) (hl9 : zLi k9 = true) (hc : zMe h = false) (oa : Nat) (og : Nat → Int64) : zMetN l G yL_lock wsL_lock rmL_lock [.ref o9, .int k9, .ref oa] ([(oa, .inl (G.2 5, 1, .inr (.inl og)))] ++ ([(o9, .inr (6, [u0, .ref a.1, u2, u3, u4, u5, u6, u7]))] ++ (gmW G a h b))) (some (.int 2)) ([(oa, .inl (G.2 5, 1, .inr (.inl og)))] ++ ([(o9, .inr (6, [u0, .ref a.1, u2, u3, u4, u5, u6, u7]))] ++ (gmW G a h b))) := by
  refine zMetN_of (cc := cL_lock) (maxL := 4) (ret := (some .int)) (hh := [(0, 9, 12, 28), (0, 9, 15, 15)]) (by decide) rfl (Nat.le_of_ble_eq_true rfl) ?_
  intro p e s m below meth c A ls hx hb hr htb hml hown hts hK hA hE hN hTh hlocks hin hM hl
  have hown : s.vm.findClass RL = some m.cls := hown
  have hl : lv_has ls 4 [(0, .ref o9), (1, .int k9), (2, .ref oa)] := hl
  refine lv_aload_n hx hb dL_lock_0 rfl (lv_at hl 2 rfl) ?_
  refine lv_iconst (v := 0) hx hb dL_lock_1 (by decide) ?_
  refine lv_aload_n hx hb dL_lock_2 rfl (lv_at hl 0 rfl) ?_
  refine lv_iload_n hx hb dL_lock_3 rfl (lv_at hl 1 rfl) ?_
  refine z_callVT (As := [.int k9]) (rest := [.int 0, .ref oa]) (wc := ([(o9, .inr (6, [u0, .ref a.1, u2, u3, u4, u5, u6, u7]))] ++ (gmW G a h b))) (wr := [(oa, .inl (G.2 5, 1, .inr (.inl og)))]) ⟨hx, hb, hml, hown, hts⟩ (c_x_lock2 l G hl0 o9 u0 u2 u3 u4 u5 u6 u7 a h b k9 hl9 hc) (cwV 1 hts gL_lock_X6_lock rfl rfl rfl (by decide +kernel) ⟨(Nat.le_of_ble_eq_true rfl), (Nat.le_of_ble_eq_true rfl)⟩) 6 rfl rfl rfl rfl hl.1 rfl (Nat.le_of_ble_eq_true rfl) dL_lock_4 ⟨(Nat.le_of_ble_eq_true rfl), (Nat.le_of_ble_eq_true rfl)⟩ hK hE hTh hA hM List.perm_append_comm (fun qx9 ce H locs hM hce hcv hcl9 => ?_)
  refine vx_catch (own := RL) (name := "java/lang/IllegalStateException") (E := "java/lang/IllegalStateException") (ce := ce) hown [⟨0, 9, 12, 28⟩] ⟨0, 9, 15, 15⟩ [] (htb.trans rfl) (fun z h9 => by cases List.mem_singleton.mp h9; exact Or.inr ⟨by decide, "java/lang/IndexOutOfBoundsException", hts (.classLink RL 28 "java/lang/IndexOutOfBoundsException") (by decide +kernel), hN ("java/lang/IllegalStateException", "java/lang/IndexOutOfBoundsException") (List.mem_of_getElem? (i := 2) rfl)⟩) rfl (by decide) (hts (.classLink RL 15 "java/lang/IllegalStateException") (by decide +kernel)) (va_Nw.use rfl (hTh.2 "java/lang/IllegalStateException" (List.mem_of_getElem? (i := 1) rfl))) hce hcv hcl9 ?_
  refine lv_astore_n (lv' := [(3, .ref qx9), (0, .ref o9), (1, .int k9), (2, .ref oa)]) hx hb dL_lock_15 rfl hl (by decide) rfl (fun ls hl => ?_)
  refine lv_iconst (v := 2) hx hb dL_lock_16 (by decide) ?_
  exact z_iret hx hb hr hlocks dL_lock_17 hM (Nat.le_of_ble_eq_true rfl) (Nat.le_of_ble_eq_true rfl) rfl
set_option maxHeartbeats 4000000 in
set_option maxRecDepth 100000 in
theorem w_x_lock0 (l : Launch) (G : zC) (o9 : Nat) (u0 u2 u3 u4 u6 u7 : Value) (mq mz mk mx : Nat) (ga : Nat → zGA) (mh : Nat → Nat → Int32) (mb : Nat → Nat → Nat → Int32) (a : zGA) (h : Nat → Int32) (b : Nat → Nat → Int32) (hx14 : mx < 14) (hk14 : mk ≤ 14) (P t S e0 : Nat) (hG : zGs h b P t S e0) (k9 : Int32) (hl9 : zLi k9 = true) (hc : zMe h = true) (oa : Nat) (og : Nat → Int64) : zMetN l G yL_lock wsL_lock rmL_lock [.ref o9, .int k9, .ref oa] ([(oa, .inl (G.2 5, 1, .inr (.inl og)))] ++ ([(o9, .inr (6, [u0, .ref a.1, u2, u3, u4, .ref mq, u6, u7]))] ++ ((mmW G mq mz ga mk mx mh mb) ++ (gmW G a h b)))) (some (.int 0)) ([(oa, .inl (G.2 5, 1, .inr (.inl (vp_updL og 0 (Int32.toInt64 (if (zEtH h (zLkB b t k9) t P) 4 = 0 then (zEtH h (zLkB b t k9) t P) 1 else -1))))))] ++ ([(o9, .inr (6, [u0, .ref a.1, u2, u3, u4, .ref mq, u6, u7]))] ++ ((mmW G mq mz ga (zMi mk) (zNe mx) (va_up mh mx h) (va_up mb mx b)) ++ (gmW G a (zEtH h (zLkB b t k9) t P) (zEtB h (zLkB b t k9) t P))))) := by
  refine zMetN_of (cc := cL_lock) (maxL := 4) (ret := (some .int)) (hh := [(0, 9, 12, 28), (0, 9, 15, 15)]) (by decide) rfl (Nat.le_of_ble_eq_true rfl) ?_
  intro p e s m below meth c A ls hx hb hr htb hml hown hts hK hA hE hN hTh hlocks hin hM hl
  have hown : s.vm.findClass RL = some m.cls := hown
  have hl : lv_has ls 4 [(0, .ref o9), (1, .int k9), (2, .ref oa)] := hl
  refine lv_aload_n hx hb dL_lock_0 rfl (lv_at hl 2 rfl) ?_
  refine lv_iconst (v := 0) hx hb dL_lock_1 (by decide) ?_
  refine lv_aload_n hx hb dL_lock_2 rfl (lv_at hl 0 rfl) ?_
  refine lv_iload_n hx hb dL_lock_3 rfl (lv_at hl 1 rfl) ?_
  refine z_callV (As := [.int k9]) (rest := [.int 0, .ref oa]) (wc := ([(o9, .inr (6, [u0, .ref a.1, u2, u3, u4, .ref mq, u6, u7]))] ++ ((mmW G mq mz ga mk mx mh mb) ++ (gmW G a h b)))) (wr := [(oa, .inl (G.2 5, 1, .inr (.inl og)))]) (w1 := ([(o9, .inr (6, [u0, .ref a.1, u2, u3, u4, .ref mq, u6, u7]))] ++ ((mmW G mq mz ga (zMi mk) (zNe mx) (va_up mh mx h) (va_up mb mx b)) ++ (gmW G a (zEtH h (zLkB b t k9) t P) (zEtB h (zLkB b t k9) t P))))) (ws' := [(oa, .inl (G.2 5, 1, .inr (.inl og)))] ++ ([(o9, .inr (6, [u0, .ref a.1, u2, u3, u4, .ref mq, u6, u7]))] ++ ((mmW G mq mz ga (zMi mk) (zNe mx) (va_up mh mx h) (va_up mb mx b)) ++ (gmW G a (zEtH h (zLkB b t k9) t P) (zEtB h (zLkB b t k9) t P))))) ⟨hx, hb, hml, hown, hts⟩ (c_x_lock0 l G o9 u0 u2 u3 u4 u6 u7 mq mz mk mx ga mh mb a h b hx14 hk14 P t S e0 hG k9 hl9 hc) (cwV 1 hts gL_lock_X6_lock rfl rfl rfl (by decide +kernel) ⟨(Nat.le_of_ble_eq_true rfl), (Nat.le_of_ble_eq_true rfl)⟩) 6 rfl rfl rfl rfl hl.1 rfl (Nat.le_of_ble_eq_true rfl) dL_lock_4 ⟨(Nat.le_of_ble_eq_true rfl), (Nat.le_of_ble_eq_true rfl)⟩ hK hE hA hM List.perm_append_comm List.perm_append_comm (fun H locs hM hz => ?_)
  refine lv_i2l (v := Int32.toInt64 (if (zEtH h (zLkB b t k9) t P) 4 = 0 then (zEtH h (zLkB b t k9) t P) 1 else -1)) hx hb dL_lock_7 rfl ?_
  refine z_last (ws' := [(oa, .inl (G.2 5, 1, .inr (.inl (vp_updL og 0 (Int32.toInt64 (if (zEtH h (zLkB b t k9) t P) 4 = 0 then (zEtH h (zLkB b t k9) t P) 1 else -1))))))] ++ ([(o9, .inr (6, [u0, .ref a.1, u2, u3, u4, .ref mq, u6, u7]))] ++ ((mmW G mq mz ga (zMi mk) (zNe mx) (va_up mh mx h) (va_up mb mx b)) ++ (gmW G a (zEtH h (zLkB b t k9) t P) (zEtB h (zLkB b t k9) t P))))) hx hb hK hM 0 rfl (vp_in_nI (n := 0) (by decide) (by decide)) dL_lock_8 rfl (fun H locs hM => ?_)
  refine lv_goto (tgt := 18) hx hb dL_lock_9 (by decide) ?_
  refine lv_iconst (v := 0) hx hb dL_lock_18 (by decide) ?_
  exact z_iret hx hb hr hlocks dL_lock_19 hM (Nat.le_of_ble_eq_true rfl) (Nat.le_of_ble_eq_true rfl) rfl
set_option maxHeartbeats 4000000 in
set_option maxRecDepth 100000 in
theorem w_x_shift1 (l : Launch) (G : zC) (hl0 : l.stackTraces = false) (o9 : Nat) (u0 u2 u3 u4 u5 u6 u7 : Value) (a : zGA) (h : Nat → Int32) (b : Nat → Nat → Int32) (i n9 w9 : Int32) (hc : (zHp h i && zLi n9) = false) (oa : Nat) (og : Nat → Int64) : zMetN l G yL_shift wsL_shift rmL_shift [.ref o9, .int i, .int n9, .int w9, .ref oa] ([(oa, .inl (G.2 5, 1, .inr (.inl og)))] ++ ([(o9, .inr (6, [u0, .ref a.1, u2, u3, u4, u5, u6, u7]))] ++ (gmW G a h b))) (some (.int 1)) ([(oa, .inl (G.2 5, 1, .inr (.inl og)))] ++ ([(o9, .inr (6, [u0, .ref a.1, u2, u3, u4, u5, u6, u7]))] ++ (gmW G a h b))) := by
  refine zMetN_of (cc := cL_shift) (maxL := 6) (ret := (some .int)) (hh := [(0, 12, 15, 28), (0, 12, 19, 13), (0, 12, 23, 15)]) (by decide) rfl (Nat.le_of_ble_eq_true rfl) ?_
  intro p e s m below meth c A ls hx hb hr htb hml hown hts hK hA hE hN hTh hlocks hin hM hl
  have hown : s.vm.findClass RL = some m.cls := hown
  have hl : lv_has ls 6 [(0, .ref o9), (1, .int i), (2, .int n9), (3, .int w9), (4, .ref oa)] := hl
  refine lv_aload hx hb dL_shift_0 (lv_at hl 4 rfl) ?_
  refine lv_iconst (v := 0) hx hb dL_shift_2 (by decide) ?_
  refine lv_aload_n hx hb dL_shift_3 rfl (lv_at hl 0 rfl) ?_
  refine lv_iload_n hx hb dL_shift_4 rfl (lv_at hl 1 rfl) ?_
  refine lv_iload_n hx hb dL_shift_5 rfl (lv_at hl 2 rfl) ?_
  refine lv_iload_n hx hb dL_shift_6 rfl (lv_at hl 3 rfl) ?_
  refine z_callVT (As := [.int i, .int n9, .int w9]) (rest := [.int 0, .ref oa]) (wc := ([(o9, .inr (6, [u0, .ref a.1, u2, u3, u4, u5, u6, u7]))] ++ (gmW G a h b))) (wr := [(oa, .inl (G.2 5, 1, .inr (.inl og)))]) ⟨hx, hb, hml, hown, hts⟩ (c_x_shift1 l G hl0 o9 u0 u2 u3 u4 u5 u6 u7 a h b i n9 w9 hc) (cwV 3 hts gL_shift_X6_shift rfl rfl rfl (by decide +kernel) ⟨(Nat.le_of_ble_eq_true rfl), (Nat.le_of_ble_eq_true rfl)⟩) 6 rfl rfl rfl rfl hl.1 rfl (Nat.le_of_ble_eq_true rfl) dL_shift_7 ⟨(Nat.le_of_ble_eq_true rfl), (Nat.le_of_ble_eq_true rfl)⟩ hK hE hTh hA hM List.perm_append_comm (fun qx9 ce H locs hM hce hcv hcl9 => ?_)
  refine vx_catch (own := RL) (name := "java/lang/IndexOutOfBoundsException") (E := "java/lang/IndexOutOfBoundsException") (ce := ce) hown [] ⟨0, 12, 15, 28⟩ [⟨0, 12, 19, 13⟩, ⟨0, 12, 23, 15⟩] (htb.trans rfl) (fun z h9 => by cases h9) rfl (by decide) (hts (.classLink RL 28 "java/lang/IndexOutOfBoundsException") (by decide +kernel)) (va_Nw.use rfl (hTh.2 "java/lang/IndexOutOfBoundsException" (List.mem_of_getElem? (i := 2) rfl))) hce hcv hcl9 ?_
  refine lv_astore (lv' := [(5, .ref qx9), (0, .ref o9), (1, .int i), (2, .int n9), (3, .int w9), (4, .ref oa)]) hx hb dL_shift_15 hl (by decide) rfl (fun ls hl => ?_)
  refine lv_iconst (v := 1) hx hb dL_shift_17 (by decide) ?_
  exact z_iret hx hb hr hlocks dL_shift_18 hM (Nat.le_of_ble_eq_true rfl) (Nat.le_of_ble_eq_true rfl) rfl
set_option maxHeartbeats 4000000 in
set_option maxRecDepth 100000 in
theorem w_x_shift2 (l : Launch) (G : zC) (hl0 : l.stackTraces = false) (o9 : Nat) (u0 u2 u3 u4 u5 u6 u7 : Value) (a : zGA) (h : Nat → Int32) (b : Nat → Nat → Int32) (i n9 w9 : Int32) (hi : zHp h i = true) (hn : zLi n9 = true) (hc : zDi w9 = false) (oa : Nat) (og : Nat → Int64) : zMetN l G yL_shift wsL_shift rmL_shift [.ref o9, .int i, .int n9, .int w9, .ref oa] ([(oa, .inl (G.2 5, 1, .inr (.inl og)))] ++ ([(o9, .inr (6, [u0, .ref a.1, u2, u3, u4, u5, u6, u7]))] ++ (gmW G a h b))) (some (.int 2)) ([(oa, .inl (G.2 5, 1, .inr (.inl og)))] ++ ([(o9, .inr (6, [u0, .ref a.1, u2, u3, u4, u5, u6, u7]))] ++ (gmW G a h b))) := by
  refine zMetN_of (cc := cL_shift) (maxL := 6) (ret := (some .int)) (hh := [(0, 12, 15, 28), (0, 12, 19, 13), (0, 12, 23, 15)]) (by decide) rfl (Nat.le_of_ble_eq_true rfl) ?_
  intro p e s m below meth c A ls hx hb hr htb hml hown hts hK hA hE hN hTh hlocks hin hM hl
  have hown : s.vm.findClass RL = some m.cls := hown
  have hl : lv_has ls 6 [(0, .ref o9), (1, .int i), (2, .int n9), (3, .int w9), (4, .ref oa)] := hl
  refine lv_aload hx hb dL_shift_0 (lv_at hl 4 rfl) ?_
  refine lv_iconst (v := 0) hx hb dL_shift_2 (by decide) ?_
  refine lv_aload_n hx hb dL_shift_3 rfl (lv_at hl 0 rfl) ?_
  refine lv_iload_n hx hb dL_shift_4 rfl (lv_at hl 1 rfl) ?_
  refine lv_iload_n hx hb dL_shift_5 rfl (lv_at hl 2 rfl) ?_
  refine lv_iload_n hx hb dL_shift_6 rfl (lv_at hl 3 rfl) ?_
  refine z_callVT (As := [.int i, .int n9, .int w9]) (rest := [.int 0, .ref oa]) (wc := ([(o9, .inr (6, [u0, .ref a.1, u2, u3, u4, u5, u6, u7]))] ++ (gmW G a h b))) (wr := [(oa, .inl (G.2 5, 1, .inr (.inl og)))]) ⟨hx, hb, hml, hown, hts⟩ (c_x_shift2 l G hl0 o9 u0 u2 u3 u4 u5 u6 u7 a h b i n9 w9 hi hn hc) (cwV 3 hts gL_shift_X6_shift rfl rfl rfl (by decide +kernel) ⟨(Nat.le_of_ble_eq_true rfl), (Nat.le_of_ble_eq_true rfl)⟩) 6 rfl rfl rfl rfl hl.1 rfl (Nat.le_of_ble_eq_true rfl) dL_shift_7 ⟨(Nat.le_of_ble_eq_true rfl), (Nat.le_of_ble_eq_true rfl)⟩ hK hE hTh hA hM List.perm_append_comm (fun qx9 ce H locs hM hce hcv hcl9 => ?_)
  refine vx_catch (own := RL) (name := "java/lang/IllegalArgumentException") (E := "java/lang/IllegalArgumentException") (ce := ce) hown [⟨0, 12, 15, 28⟩] ⟨0, 12, 19, 13⟩ [⟨0, 12, 23, 15⟩] (htb.trans rfl) (fun z h9 => by cases List.mem_singleton.mp h9; exact Or.inr ⟨by decide, "java/lang/IndexOutOfBoundsException", hts (.classLink RL 28 "java/lang/IndexOutOfBoundsException") (by decide +kernel), hN ("java/lang/IllegalArgumentException", "java/lang/IndexOutOfBoundsException") (List.mem_of_getElem? (i := 1) rfl)⟩) rfl (by decide) (hts (.classLink RL 13 "java/lang/IllegalArgumentException") (by decide +kernel)) (va_Nw.use rfl (hTh.2 "java/lang/IllegalArgumentException" (List.mem_of_getElem? (i := 0) rfl))) hce hcv hcl9 ?_
  refine lv_astore (lv' := [(5, .ref qx9), (0, .ref o9), (1, .int i), (2, .int n9), (3, .int w9), (4, .ref oa)]) hx hb dL_shift_19 hl (by decide) rfl (fun ls hl => ?_)
  refine lv_iconst (v := 2) hx hb dL_shift_21 (by decide) ?_
  exact z_iret hx hb hr hlocks dL_shift_22 hM (Nat.le_of_ble_eq_true rfl) (Nat.le_of_ble_eq_true rfl) rfl
set_option maxHeartbeats 4000000 in
set_option maxRecDepth 100000 in
theorem w_x_shift3 (l : Launch) (G : zC) (hl0 : l.stackTraces = false) (o9 : Nat) (u0 u2 u3 u4 u5 u6 u7 : Value) (a : zGA) (h : Nat → Int32) (b : Nat → Nat → Int32) (P t S e0 : Nat) (hG : zGs h b P t S e0) (o : Nat) (ho : o < P) (i : Nat) (w9 : Int32) (hi6 : i < 6) (hd : zDi w9 = true) (hc : zMs h b o (nI i) w9 = false) (oa : Nat) (og : Nat → Int64) : zMetN l G yL_shift wsL_shift rmL_shift [.ref o9, .int (nI o), .int (nI i), .int w9, .ref oa] ([(oa, .inl (G.2 5, 1, .inr (.inl og)))] ++ ([(o9, .inr (6, [u0, .ref a.1, u2, u3, u4, u5, u6, u7]))] ++ (gmW G a h b))) (some (.int 3)) ([(oa, .inl (G.2 5, 1, .inr (.inl og)))] ++ ([(o9, .inr (6, [u0, .ref a.1, u2, u3, u4, u5, u6, u7]))] ++ (gmW G a h b))) := by
  refine zMetN_of (cc := cL_shift) (maxL := 6) (ret := (some .int)) (hh := [(0, 12, 15, 28), (0, 12, 19, 13), (0, 12, 23, 15)]) (by decide) rfl (Nat.le_of_ble_eq_true rfl) ?_
  intro p e s m below meth c A ls hx hb hr htb hml hown hts hK hA hE hN hTh hlocks hin hM hl
  have hown : s.vm.findClass RL = some m.cls := hown
  have hl : lv_has ls 6 [(0, .ref o9), (1, .int (nI o)), (2, .int (nI i)), (3, .int w9), (4, .ref oa)] := hl
  refine lv_aload hx hb dL_shift_0 (lv_at hl 4 rfl) ?_
  refine lv_iconst (v := 0) hx hb dL_shift_2 (by decide) ?_
  refine lv_aload_n hx hb dL_shift_3 rfl (lv_at hl 0 rfl) ?_
  refine lv_iload_n hx hb dL_shift_4 rfl (lv_at hl 1 rfl) ?_
  refine lv_iload_n hx hb dL_shift_5 rfl (lv_at hl 2 rfl) ?_
  refine lv_iload_n hx hb dL_shift_6 rfl (lv_at hl 3 rfl) ?_
  refine z_callVT (As := [.int (nI o), .int (nI i), .int w9]) (rest := [.int 0, .ref oa]) (wc := ([(o9, .inr (6, [u0, .ref a.1, u2, u3, u4, u5, u6, u7]))] ++ (gmW G a h b))) (wr := [(oa, .inl (G.2 5, 1, .inr (.inl og)))]) ⟨hx, hb, hml, hown, hts⟩ (c_x_shift3 l G hl0 o9 u0 u2 u3 u4 u5 u6 u7 a h b P t S e0 hG o ho i w9 hi6 hd hc) (cwV 3 hts gL_shift_X6_shift rfl rfl rfl (by decide +kernel) ⟨(Nat.le_of_ble_eq_true rfl), (Nat.le_of_ble_eq_true rfl)⟩) 6 rfl rfl rfl rfl hl.1 rfl (Nat.le_of_ble_eq_true rfl) dL_shift_7 ⟨(Nat.le_of_ble_eq_true rfl), (Nat.le_of_ble_eq_true rfl)⟩ hK hE hTh hA hM List.perm_append_comm (fun qx9 ce H locs hM hce hcv hcl9 => ?_)
  refine vx_catch (own := RL) (name := "java/lang/IllegalStateException") (E := "java/lang/IllegalStateException") (ce := ce) hown [⟨0, 12, 15, 28⟩, ⟨0, 12, 19, 13⟩] ⟨0, 12, 23, 15⟩ [] (htb.trans rfl) (fun z h9 => by rcases List.mem_cons.mp h9 with h9 | h9; (cases h9; exact Or.inr ⟨by decide, "java/lang/IndexOutOfBoundsException", hts (.classLink RL 28 "java/lang/IndexOutOfBoundsException") (by decide +kernel), hN ("java/lang/IllegalStateException", "java/lang/IndexOutOfBoundsException") (List.mem_of_getElem? (i := 2) rfl)⟩); (cases List.mem_singleton.mp h9; exact Or.inr ⟨by decide, "java/lang/IllegalArgumentException", hts (.classLink RL 13 "java/lang/IllegalArgumentException") (by decide +kernel), hN ("java/lang/IllegalStateException", "java/lang/IllegalArgumentException") (List.mem_of_getElem? (i := 0) rfl)⟩)) rfl (by decide) (hts (.classLink RL 15 "java/lang/IllegalStateException") (by decide +kernel)) (va_Nw.use rfl (hTh.2 "java/lang/IllegalStateException" (List.mem_of_getElem? (i := 1) rfl))) hce hcv hcl9 ?_
  refine lv_astore (lv' := [(5, .ref qx9), (0, .ref o9), (1, .int (nI o)), (2, .int (nI i)), (3, .int w9), (4, .ref oa)]) hx hb dL_shift_23 hl (by decide) rfl (fun ls hl => ?_)
  refine lv_iconst (v := 3) hx hb dL_shift_25 (by decide) ?_
  exact z_iret hx hb hr hlocks dL_shift_26 hM (Nat.le_of_ble_eq_true rfl) (Nat.le_of_ble_eq_true rfl) rfl
set_option maxHeartbeats 4000000 in
set_option maxRecDepth 100000 in
theorem w_x_shift0 (l : Launch) (G : zC) (o9 : Nat) (u0 u2 u3 u4 u6 u7 : Value) (mq mz mk mx : Nat) (ga : Nat → zGA) (mh : Nat → Nat → Int32) (mb : Nat → Nat → Nat → Int32) (a : zGA) (h : Nat → Int32) (b : Nat → Nat → Int32) (hx14 : mx < 14) (hk14 : mk ≤ 14) (P t S e0 : Nat) (hG : zGs h b P t S e0) (o : Nat) (ho : o < P) (i : Nat) (w9 : Int32) (hi6 : i < 6) (hd : zDi w9 = true) (hc : zMs h b o (nI i) w9 = true) (oa : Nat) (og : Nat → Int64) : zMetN l G yL_shift wsL_shift rmL_shift [.ref o9, .int (nI o), .int (nI i), .int w9, .ref oa] ([(oa, .inl (G.2 5, 1, .inr (.inl og)))] ++ ([(o9, .inr (6, [u0, .ref a.1, u2, u3, u4, .ref mq, u6, u7]))] ++ ((mmW G mq mz ga mk mx mh mb) ++ (gmW G a h b)))) (some (.int 0)) ([(oa, .inl (G.2 5, 1, .inr (.inl (vp_updL og 0 (Int32.toInt64 (zBc (zRch (zMv (b o) i w9) S)))))))] ++ ([(o9, .inr (6, [u0, .ref a.1, u2, u3, u4, .ref mq, u6, u7]))] ++ ((mmW G mq mz ga (zMi mk) (zNe mx) (va_up mh mx h) (va_up mb mx b)) ++ (gmW G a (zShH h) (va_up b o (zMv (b o) i w9)))))) := by
  refine zMetN_of (cc := cL_shift) (maxL := 6) (ret := (some .int)) (hh := [(0, 12, 15, 28), (0, 12, 19, 13), (0, 12, 23, 15)]) (by decide) rfl (Nat.le_of_ble_eq_true rfl) ?_
  intro p e s m below meth c A ls hx hb hr htb hml hown hts hK hA hE hN hTh hlocks hin hM hl
  have hown : s.vm.findClass RL = some m.cls := hown
  have hl : lv_has ls 6 [(0, .ref o9), (1, .int (nI o)), (2, .int (nI i)), (3, .int w9), (4, .ref oa)] := hl
  refine lv_aload hx hb dL_shift_0 (lv_at hl 4 rfl) ?_
  refine lv_iconst (v := 0) hx hb dL_shift_2 (by decide) ?_
  refine lv_aload_n hx hb dL_shift_3 rfl (lv_at hl 0 rfl) ?_
  refine lv_iload_n hx hb dL_shift_4 rfl (lv_at hl 1 rfl) ?_
  refine lv_iload_n hx hb dL_shift_5 rfl (lv_at hl 2 rfl) ?_
  refine lv_iload_n hx hb dL_shift_6 rfl (lv_at hl 3 rfl) ?_
  refine z_callV (As := [.int (nI o), .int (nI i), .int w9]) (rest := [.int 0, .ref oa]) (wc := ([(o9, .inr (6, [u0, .ref a.1, u2, u3, u4, .ref mq, u6, u7]))] ++ ((mmW G mq mz ga mk mx mh mb) ++ (gmW G a h b)))) (wr := [(oa, .inl (G.2 5, 1, .inr (.inl og)))]) (w1 := ([(o9, .inr (6, [u0, .ref a.1, u2, u3, u4, .ref mq, u6, u7]))] ++ ((mmW G mq mz ga (zMi mk) (zNe mx) (va_up mh mx h) (va_up mb mx b)) ++ (gmW G a (zShH h) (va_up b o (zMv (b o) i w9)))))) (ws' := [(oa, .inl (G.2 5, 1, .inr (.inl og)))] ++ ([(o9, .inr (6, [u0, .ref a.1, u2, u3, u4, .ref mq, u6, u7]))] ++ ((mmW G mq mz ga (zMi mk) (zNe mx) (va_up mh mx h) (va_up mb mx b)) ++ (gmW G a (zShH h) (va_up b o (zMv (b o) i w9)))))) ⟨hx, hb, hml, hown, hts⟩ (c_x_shift0 l G o9 u0 u2 u3 u4 u6 u7 mq mz mk mx ga mh mb a h b hx14 hk14 P t S e0 hG o ho i w9 hi6 hd hc) (cwV 3 hts gL_shift_X6_shift rfl rfl rfl (by decide +kernel) ⟨(Nat.le_of_ble_eq_true rfl), (Nat.le_of_ble_eq_true rfl)⟩) 6 rfl rfl rfl rfl hl.1 rfl (Nat.le_of_ble_eq_true rfl) dL_shift_7 ⟨(Nat.le_of_ble_eq_true rfl), (Nat.le_of_ble_eq_true rfl)⟩ hK hE hA hM List.perm_append_comm List.perm_append_comm (fun H locs hM hz => ?_)
  refine lv_i2l (v := Int32.toInt64 (zBc (zRch (zMv (b o) i w9) S))) hx hb dL_shift_10 rfl ?_
  refine z_last (ws' := [(oa, .inl (G.2 5, 1, .inr (.inl (vp_updL og 0 (Int32.toInt64 (zBc (zRch (zMv (b o) i w9) S)))))))] ++ ([(o9, .inr (6, [u0, .ref a.1, u2, u3, u4, .ref mq, u6, u7]))] ++ ((mmW G mq mz ga (zMi mk) (zNe mx) (va_up mh mx h) (va_up mb mx b)) ++ (gmW G a (zShH h) (va_up b o (zMv (b o) i w9)))))) hx hb hK hM 0 rfl (vp_in_nI (n := 0) (by decide) (by decide)) dL_shift_11 rfl (fun H locs hM => ?_)
  refine lv_goto (tgt := 27) hx hb dL_shift_12 (by decide) ?_
  refine lv_iconst (v := 0) hx hb dL_shift_27 (by decide) ?_
  exact z_iret hx hb hr hlocks dL_shift_28 hM (Nat.le_of_ble_eq_true rfl) (Nat.le_of_ble_eq_true rfl) rfl
set_option maxHeartbeats 4000000 in
set_option maxRecDepth 100000 in
theorem w_x_play1 (l : Launch) (G : zC) (hl0 : l.stackTraces = false) (o9 : Nat) (u0 u2 u3 u4 u5 u6 u7 : Value) (a : zGA) (h : Nat → Int32) (b : Nat → Nat → Int32) (hc : zRu h = false) (oa : Nat) (og : Nat → Int64) : zMetN l G yL_play wsL_play rmL_play [.ref o9, .ref oa] ([(oa, .inl (G.2 5, 1, .inr (.inl og)))] ++ ([(o9, .inr (6, [u0, .ref a.1, u2, u3, u4, u5, u6, u7]))] ++ (gmW G a h b))) (some (.int 1)) ([(oa, .inl (G.2 5, 1, .inr (.inl og)))] ++ ([(o9, .inr (6, [u0, .ref a.1, u2, u3, u4, u5, u6, u7]))] ++ (gmW G a h b))) := by
  refine zMetN_of (cc := cL_play) (maxL := 3) (ret := (some .int)) (hh := [(0, 8, 11, 15)]) (by decide) rfl (Nat.le_of_ble_eq_true rfl) ?_
  intro p e s m below meth c A ls hx hb hr htb hml hown hts hK hA hE hN hTh hlocks hin hM hl
  have hown : s.vm.findClass RL = some m.cls := hown
  have hl : lv_has ls 3 [(0, .ref o9), (1, .ref oa)] := hl
  refine lv_aload_n hx hb dL_play_0 rfl (lv_at hl 1 rfl) ?_
  refine lv_iconst (v := 0) hx hb dL_play_1 (by decide) ?_
  refine lv_aload_n hx hb dL_play_2 rfl (lv_at hl 0 rfl) ?_
  refine z_callVT (As := []) (rest := [.int 0, .ref oa]) (wc := ([(o9, .inr (6, [u0, .ref a.1, u2, u3, u4, u5, u6, u7]))] ++ (gmW G a h b))) (wr := [(oa, .inl (G.2 5, 1, .inr (.inl og)))]) ⟨hx, hb, hml, hown, hts⟩ (c_x_play1 l G hl0 o9 u0 u2 u3 u4 u5 u6 u7 a h b hc) (cwV 0 hts gL_play_X6_play rfl rfl rfl (by decide +kernel) ⟨(Nat.le_of_ble_eq_true rfl), (Nat.le_of_ble_eq_true rfl)⟩) 6 rfl rfl rfl rfl hl.1 rfl (Nat.le_of_ble_eq_true rfl) dL_play_3 ⟨(Nat.le_of_ble_eq_true rfl), (Nat.le_of_ble_eq_true rfl)⟩ hK hE hTh hA hM List.perm_append_comm (fun qx9 ce H locs hM hce hcv hcl9 => ?_)
  refine vx_catch (own := RL) (name := "java/lang/IllegalStateException") (E := "java/lang/IllegalStateException") (ce := ce) hown [] ⟨0, 8, 11, 15⟩ [] (htb.trans rfl) (fun z h9 => by cases h9) rfl (by decide) (hts (.classLink RL 15 "java/lang/IllegalStateException") (by decide +kernel)) (va_Nw.use rfl (hTh.2 "java/lang/IllegalStateException" (List.mem_of_getElem? (i := 1) rfl))) hce hcv hcl9 ?_
  refine lv_astore_n (lv' := [(2, .ref qx9), (0, .ref o9), (1, .ref oa)]) hx hb dL_play_11 rfl hl (by decide) rfl (fun ls hl => ?_)
  refine lv_iconst (v := 1) hx hb dL_play_12 (by decide) ?_
  exact z_iret hx hb hr hlocks dL_play_13 hM (Nat.le_of_ble_eq_true rfl) (Nat.le_of_ble_eq_true rfl) rfl
set_option maxHeartbeats 4000000 in
set_option maxRecDepth 100000 in
theorem w_x_play0 (l : Launch) (G : zC) (o9 : Nat) (u0 u2 u4 u6 u7 : Value) (r9 : Nat) (sa : zBA) (u : zRU) (mq mz mk mx : Nat) (ga : Nat → zGA) (mh : Nat → Nat → Int32) (mb : Nat → Nat → Nat → Int32) (a : zGA) (h : Nat → Int32) (b : Nat → Nat → Int32) (hx14 : mx < 14) (hk14 : mk ≤ 14) (P t S e0 : Nat) (hG : zGs h b P t S e0) (hru : zRu h = true) (oa : Nat) (og : Nat → Int64) : zMetN l G yL_play wsL_play rmL_play [.ref o9, .ref oa] ([(oa, .inl (G.2 5, 1, .inr (.inl og)))] ++ ([(o9, .inr (6, [u0, .ref a.1, u2, .ref r9, u4, .ref mq, u6, u7]))] ++ ((ruW G r9 sa u) ++ ((mmW G mq mz ga mk mx mh mb) ++ (gmW G a h b))))) (some (.int 0)) ([(oa, .inl (G.2 5, 1, .inr (.inl (vp_updL og 0 (Int32.toInt64 (zFtR h b P t S u.2.2.2.2))))))] ++ ([(o9, .inr (6, [u0, .ref a.1, u2, .ref r9, u4, .ref mq, u6, u7]))] ++ ((ruW G r9 sa (zCs h b S P u.2.2.2.2)) ++ ((mmW G mq mz ga (zMi mk) (zNe mx) (va_up mh mx h) (va_up mb mx b)) ++ (gmW G a (zFtH h b P t S u.2.2.2.2) (zFtB h b P t S u.2.2.2.2)))))) := by
  refine zMetN_of (cc := cL_play) (maxL := 3) (ret := (some .int)) (hh := [(0, 8, 11, 15)]) (by decide) rfl (Nat.le_of_ble_eq_true rfl) ?_
  intro p e s m below meth c A ls hx hb hr htb hml hown hts hK hA hE hN hTh hlocks hin hM hl
  have hown : s.vm.findClass RL = some m.cls := hown
  have hl : lv_has ls 3 [(0, .ref o9), (1, .ref oa)] := hl
  refine lv_aload_n hx hb dL_play_0 rfl (lv_at hl 1 rfl) ?_
  refine lv_iconst (v := 0) hx hb dL_play_1 (by decide) ?_
  refine lv_aload_n hx hb dL_play_2 rfl (lv_at hl 0 rfl) ?_
  refine z_callV (As := []) (rest := [.int 0, .ref oa]) (wc := ([(o9, .inr (6, [u0, .ref a.1, u2, .ref r9, u4, .ref mq, u6, u7]))] ++ ((ruW G r9 sa u) ++ ((mmW G mq mz ga mk mx mh mb) ++ (gmW G a h b))))) (wr := [(oa, .inl (G.2 5, 1, .inr (.inl og)))]) (w1 := ([(o9, .inr (6, [u0, .ref a.1, u2, .ref r9, u4, .ref mq, u6, u7]))] ++ ((ruW G r9 sa (zCs h b S P u.2.2.2.2)) ++ ((mmW G mq mz ga (zMi mk) (zNe mx) (va_up mh mx h) (va_up mb mx b)) ++ (gmW G a (zFtH h b P t S u.2.2.2.2) (zFtB h b P t S u.2.2.2.2)))))) (ws' := [(oa, .inl (G.2 5, 1, .inr (.inl og)))] ++ ([(o9, .inr (6, [u0, .ref a.1, u2, .ref r9, u4, .ref mq, u6, u7]))] ++ ((ruW G r9 sa (zCs h b S P u.2.2.2.2)) ++ ((mmW G mq mz ga (zMi mk) (zNe mx) (va_up mh mx h) (va_up mb mx b)) ++ (gmW G a (zFtH h b P t S u.2.2.2.2) (zFtB h b P t S u.2.2.2.2)))))) ⟨hx, hb, hml, hown, hts⟩ (c_x_play0 l G o9 u0 u2 u4 u6 u7 r9 sa u mq mz mk mx ga mh mb a h b hx14 hk14 P t S e0 hG hru) (cwV 0 hts gL_play_X6_play rfl rfl rfl (by decide +kernel) ⟨(Nat.le_of_ble_eq_true rfl), (Nat.le_of_ble_eq_true rfl)⟩) 6 rfl rfl rfl rfl hl.1 rfl (Nat.le_of_ble_eq_true rfl) dL_play_3 ⟨(Nat.le_of_ble_eq_true rfl), (Nat.le_of_ble_eq_true rfl)⟩ hK hE hA hM List.perm_append_comm List.perm_append_comm (fun H locs hM hz => ?_)
  refine lv_i2l (v := Int32.toInt64 (zFtR h b P t S u.2.2.2.2)) hx hb dL_play_6 rfl ?_
  refine z_last (ws' := [(oa, .inl (G.2 5, 1, .inr (.inl (vp_updL og 0 (Int32.toInt64 (zFtR h b P t S u.2.2.2.2))))))] ++ ([(o9, .inr (6, [u0, .ref a.1, u2, .ref r9, u4, .ref mq, u6, u7]))] ++ ((ruW G r9 sa (zCs h b S P u.2.2.2.2)) ++ ((mmW G mq mz ga (zMi mk) (zNe mx) (va_up mh mx h) (va_up mb mx b)) ++ (gmW G a (zFtH h b P t S u.2.2.2.2) (zFtB h b P t S u.2.2.2.2)))))) hx hb hK hM 0 rfl (vp_in_nI (n := 0) (by decide) (by decide)) dL_play_7 rfl (fun H locs hM => ?_)
  refine lv_goto (tgt := 14) hx hb dL_play_8 (by decide) ?_
  refine lv_iconst (v := 0) hx hb dL_play_14 (by decide) ?_
  exact z_iret hx hb hr hlocks dL_play_15 hM (Nat.le_of_ble_eq_true rfl) (Nat.le_of_ble_eq_true rfl) rfl
set_option maxHeartbeats 4000000 in
set_option maxRecDepth 100000 in
theorem w_x_worst1 (l : Launch) (G : zC) (hl0 : l.stackTraces = false) (o9 : Nat) (u0 u2 u3 u4 u5 u6 u7 : Value) (a : zGA) (h : Nat → Int32) (b : Nat → Nat → Int32) (k9 : Int32) (hc : k9 < 0 ∨ 2 < k9) (oa : Nat) (og : Nat → Int64) : zMetN l G yL_worstShift wsL_worstShift rmL_worstShift [.ref o9, .int k9, .ref oa] ([(oa, .inl (G.2 5, 1, .inr (.inl og)))] ++ ([(o9, .inr (6, [u0, .ref a.1, u2, u3, u4, u5, u6, u7]))] ++ (gmW G a h b))) (some (.int 1)) ([(oa, .inl (G.2 5, 1, .inr (.inl og)))] ++ ([(o9, .inr (6, [u0, .ref a.1, u2, u3, u4, u5, u6, u7]))] ++ (gmW G a h b))) := by
  refine zMetN_of (cc := cL_worstShift) (maxL := 4) (ret := (some .int)) (hh := [(0, 9, 12, 13)]) (by decide) rfl (Nat.le_of_ble_eq_true rfl) ?_
  intro p e s m below meth c A ls hx hb hr htb hml hown hts hK hA hE hN hTh hlocks hin hM hl
  have hown : s.vm.findClass RL = some m.cls := hown
  have hl : lv_has ls 4 [(0, .ref o9), (1, .int k9), (2, .ref oa)] := hl
  refine lv_aload_n hx hb dL_worstShift_0 rfl (lv_at hl 2 rfl) ?_
  refine lv_iconst (v := 0) hx hb dL_worstShift_1 (by decide) ?_
  refine lv_aload_n hx hb dL_worstShift_2 rfl (lv_at hl 0 rfl) ?_
  refine lv_iload_n hx hb dL_worstShift_3 rfl (lv_at hl 1 rfl) ?_
  refine z_callVT (As := [.int k9]) (rest := [.int 0, .ref oa]) (wc := ([(o9, .inr (6, [u0, .ref a.1, u2, u3, u4, u5, u6, u7]))] ++ (gmW G a h b))) (wr := [(oa, .inl (G.2 5, 1, .inr (.inl og)))]) ⟨hx, hb, hml, hown, hts⟩ (c_x_worst1 l G hl0 o9 u0 u2 u3 u4 u5 u6 u7 a h b k9 hc) (cwV 1 hts gL_worstShift_X6_worstShift rfl rfl rfl (by decide +kernel) ⟨(Nat.le_of_ble_eq_true rfl), (Nat.le_of_ble_eq_true rfl)⟩) 6 rfl rfl rfl rfl hl.1 rfl (Nat.le_of_ble_eq_true rfl) dL_worstShift_4 ⟨(Nat.le_of_ble_eq_true rfl), (Nat.le_of_ble_eq_true rfl)⟩ hK hE hTh hA hM List.perm_append_comm (fun qx9 ce H locs hM hce hcv hcl9 => ?_)
  refine vx_catch (own := RL) (name := "java/lang/IllegalArgumentException") (E := "java/lang/IllegalArgumentException") (ce := ce) hown [] ⟨0, 9, 12, 13⟩ [] (htb.trans rfl) (fun z h9 => by cases h9) rfl (by decide) (hts (.classLink RL 13 "java/lang/IllegalArgumentException") (by decide +kernel)) (va_Nw.use rfl (hTh.2 "java/lang/IllegalArgumentException" (List.mem_of_getElem? (i := 0) rfl))) hce hcv hcl9 ?_
  refine lv_astore_n (lv' := [(3, .ref qx9), (0, .ref o9), (1, .int k9), (2, .ref oa)]) hx hb dL_worstShift_12 rfl hl (by decide) rfl (fun ls hl => ?_)
  refine lv_iconst (v := 1) hx hb dL_worstShift_13 (by decide) ?_
  exact z_iret hx hb hr hlocks dL_worstShift_14 hM (Nat.le_of_ble_eq_true rfl) (Nat.le_of_ble_eq_true rfl) rfl
set_option maxHeartbeats 4000000 in
set_option maxRecDepth 100000 in
theorem w_x_worst0_0 (l : Launch) (G : zC) (o9 : Nat) (u0 u2 u4 u5 u6 u7 : Value) (r9 : Nat) (sa : zBA) (u : zRU) (a : zGA) (h : Nat → Int32) (b : Nat → Nat → Int32) (P t S e0 : Nat) (hG : zGs h b P t S e0) (oa : Nat) (og : Nat → Int64) : zMetN l G yL_worstShift wsL_worstShift rmL_worstShift [.ref o9, .int 0, .ref oa] ([(oa, .inl (G.2 5, 1, .inr (.inl og)))] ++ ([(o9, .inr (6, [u0, .ref a.1, u2, .ref r9, u4, u5, u6, u7]))] ++ ((ruW G r9 sa u) ++ (gmW G a h b)))) (some (.int 0)) ([(oa, .inl (G.2 5, 1, .inr (.inl (vp_updL og 0 (Int32.toInt64 ((zCs h b S P u.2.2.2.2).1))))))] ++ ([(o9, .inr (6, [u0, .ref a.1, u2, .ref r9, u4, u5, u6, u7]))] ++ ((ruW G r9 sa (zCs h b S P u.2.2.2.2)) ++ (gmW G a h b)))) := by
  refine zMetN_of (cc := cL_worstShift) (maxL := 4) (ret := (some .int)) (hh := [(0, 9, 12, 13)]) (by decide) rfl (Nat.le_of_ble_eq_true rfl) ?_
  intro p e s m below meth c A ls hx hb hr htb hml hown hts hK hA hE hN hTh hlocks hin hM hl
  have hown : s.vm.findClass RL = some m.cls := hown
  have hl : lv_has ls 4 [(0, .ref o9), (1, .int 0), (2, .ref oa)] := hl
  refine lv_aload_n hx hb dL_worstShift_0 rfl (lv_at hl 2 rfl) ?_
  refine lv_iconst (v := 0) hx hb dL_worstShift_1 (by decide) ?_
  refine lv_aload_n hx hb dL_worstShift_2 rfl (lv_at hl 0 rfl) ?_
  refine lv_iload_n hx hb dL_worstShift_3 rfl (lv_at hl 1 rfl) ?_
  refine z_callV (As := [.int 0]) (rest := [.int 0, .ref oa]) (wc := ([(o9, .inr (6, [u0, .ref a.1, u2, .ref r9, u4, u5, u6, u7]))] ++ ((ruW G r9 sa u) ++ (gmW G a h b)))) (wr := [(oa, .inl (G.2 5, 1, .inr (.inl og)))]) (w1 := ([(o9, .inr (6, [u0, .ref a.1, u2, .ref r9, u4, u5, u6, u7]))] ++ ((ruW G r9 sa (zCs h b S P u.2.2.2.2)) ++ (gmW G a h b)))) (ws' := [(oa, .inl (G.2 5, 1, .inr (.inl og)))] ++ ([(o9, .inr (6, [u0, .ref a.1, u2, .ref r9, u4, u5, u6, u7]))] ++ ((ruW G r9 sa (zCs h b S P u.2.2.2.2)) ++ (gmW G a h b)))) ⟨hx, hb, hml, hown, hts⟩ (c_x_worst0_0 l G o9 u0 u2 u4 u5 u6 u7 r9 sa u a h b P t S e0 hG) (cwV 1 hts gL_worstShift_X6_worstShift rfl rfl rfl (by decide +kernel) ⟨(Nat.le_of_ble_eq_true rfl), (Nat.le_of_ble_eq_true rfl)⟩) 6 rfl rfl rfl rfl hl.1 rfl (Nat.le_of_ble_eq_true rfl) dL_worstShift_4 ⟨(Nat.le_of_ble_eq_true rfl), (Nat.le_of_ble_eq_true rfl)⟩ hK hE hA hM List.perm_append_comm List.perm_append_comm (fun H locs hM hz => ?_)
  refine lv_i2l (v := Int32.toInt64 ((zCs h b S P u.2.2.2.2).1)) hx hb dL_worstShift_7 rfl ?_
  refine z_last (ws' := [(oa, .inl (G.2 5, 1, .inr (.inl (vp_updL og 0 (Int32.toInt64 ((zCs h b S P u.2.2.2.2).1))))))] ++ ([(o9, .inr (6, [u0, .ref a.1, u2, .ref r9, u4, u5, u6, u7]))] ++ ((ruW G r9 sa (zCs h b S P u.2.2.2.2)) ++ (gmW G a h b)))) hx hb hK hM 0 rfl (vp_in_nI (n := 0) (by decide) (by decide)) dL_worstShift_8 rfl (fun H locs hM => ?_)
  refine lv_goto (tgt := 15) hx hb dL_worstShift_9 (by decide) ?_
  refine lv_iconst (v := 0) hx hb dL_worstShift_15 (by decide) ?_
  exact z_iret hx hb hr hlocks dL_worstShift_16 hM (Nat.le_of_ble_eq_true rfl) (Nat.le_of_ble_eq_true rfl) rfl
set_option maxHeartbeats 4000000 in
set_option maxRecDepth 100000 in
theorem w_x_worst0_1 (l : Launch) (G : zC) (o9 : Nat) (u0 u2 u4 u5 u6 u7 : Value) (r9 : Nat) (sa : zBA) (u : zRU) (a : zGA) (h : Nat → Int32) (b : Nat → Nat → Int32) (P t S e0 : Nat) (hG : zGs h b P t S e0) (oa : Nat) (og : Nat → Int64) : zMetN l G yL_worstShift wsL_worstShift rmL_worstShift [.ref o9, .int 1, .ref oa] ([(oa, .inl (G.2 5, 1, .inr (.inl og)))] ++ ([(o9, .inr (6, [u0, .ref a.1, u2, .ref r9, u4, u5, u6, u7]))] ++ ((ruW G r9 sa u) ++ (gmW G a h b)))) (some (.int 0)) ([(oa, .inl (G.2 5, 1, .inr (.inl (vp_updL og 0 (Int32.toInt64 ((zCs h b S P u.2.2.2.2).2.1))))))] ++ ([(o9, .inr (6, [u0, .ref a.1, u2, .ref r9, u4, u5, u6, u7]))] ++ ((ruW G r9 sa (zCs h b S P u.2.2.2.2)) ++ (gmW G a h b)))) := by
  refine zMetN_of (cc := cL_worstShift) (maxL := 4) (ret := (some .int)) (hh := [(0, 9, 12, 13)]) (by decide) rfl (Nat.le_of_ble_eq_true rfl) ?_
  intro p e s m below meth c A ls hx hb hr htb hml hown hts hK hA hE hN hTh hlocks hin hM hl
  have hown : s.vm.findClass RL = some m.cls := hown
  have hl : lv_has ls 4 [(0, .ref o9), (1, .int 1), (2, .ref oa)] := hl
  refine lv_aload_n hx hb dL_worstShift_0 rfl (lv_at hl 2 rfl) ?_
  refine lv_iconst (v := 0) hx hb dL_worstShift_1 (by decide) ?_
  refine lv_aload_n hx hb dL_worstShift_2 rfl (lv_at hl 0 rfl) ?_
  refine lv_iload_n hx hb dL_worstShift_3 rfl (lv_at hl 1 rfl) ?_
  refine z_callV (As := [.int 1]) (rest := [.int 0, .ref oa]) (wc := ([(o9, .inr (6, [u0, .ref a.1, u2, .ref r9, u4, u5, u6, u7]))] ++ ((ruW G r9 sa u) ++ (gmW G a h b)))) (wr := [(oa, .inl (G.2 5, 1, .inr (.inl og)))]) (w1 := ([(o9, .inr (6, [u0, .ref a.1, u2, .ref r9, u4, u5, u6, u7]))] ++ ((ruW G r9 sa (zCs h b S P u.2.2.2.2)) ++ (gmW G a h b)))) (ws' := [(oa, .inl (G.2 5, 1, .inr (.inl og)))] ++ ([(o9, .inr (6, [u0, .ref a.1, u2, .ref r9, u4, u5, u6, u7]))] ++ ((ruW G r9 sa (zCs h b S P u.2.2.2.2)) ++ (gmW G a h b)))) ⟨hx, hb, hml, hown, hts⟩ (c_x_worst0_1 l G o9 u0 u2 u4 u5 u6 u7 r9 sa u a h b P t S e0 hG) (cwV 1 hts gL_worstShift_X6_worstShift rfl rfl rfl (by decide +kernel) ⟨(Nat.le_of_ble_eq_true rfl), (Nat.le_of_ble_eq_true rfl)⟩) 6 rfl rfl rfl rfl hl.1 rfl (Nat.le_of_ble_eq_true rfl) dL_worstShift_4 ⟨(Nat.le_of_ble_eq_true rfl), (Nat.le_of_ble_eq_true rfl)⟩ hK hE hA hM List.perm_append_comm List.perm_append_comm (fun H locs hM hz => ?_)
  refine lv_i2l (v := Int32.toInt64 ((zCs h b S P u.2.2.2.2).2.1)) hx hb dL_worstShift_7 rfl ?_
  refine z_last (ws' := [(oa, .inl (G.2 5, 1, .inr (.inl (vp_updL og 0 (Int32.toInt64 ((zCs h b S P u.2.2.2.2).2.1))))))] ++ ([(o9, .inr (6, [u0, .ref a.1, u2, .ref r9, u4, u5, u6, u7]))] ++ ((ruW G r9 sa (zCs h b S P u.2.2.2.2)) ++ (gmW G a h b)))) hx hb hK hM 0 rfl (vp_in_nI (n := 0) (by decide) (by decide)) dL_worstShift_8 rfl (fun H locs hM => ?_)
  refine lv_goto (tgt := 15) hx hb dL_worstShift_9 (by decide) ?_
  refine lv_iconst (v := 0) hx hb dL_worstShift_15 (by decide) ?_
  exact z_iret hx hb hr hlocks dL_worstShift_16 hM (Nat.le_of_ble_eq_true rfl) (Nat.le_of_ble_eq_true rfl) rfl
set_option maxHeartbeats 4000000 in
set_option maxRecDepth 100000 in
theorem w_x_worst0_2 (l : Launch) (G : zC) (o9 : Nat) (u0 u2 u4 u5 u6 u7 : Value) (r9 : Nat) (sa : zBA) (u : zRU) (a : zGA) (h : Nat → Int32) (b : Nat → Nat → Int32) (P t S e0 : Nat) (hG : zGs h b P t S e0) (oa : Nat) (og : Nat → Int64) : zMetN l G yL_worstShift wsL_worstShift rmL_worstShift [.ref o9, .int 2, .ref oa] ([(oa, .inl (G.2 5, 1, .inr (.inl og)))] ++ ([(o9, .inr (6, [u0, .ref a.1, u2, .ref r9, u4, u5, u6, u7]))] ++ ((ruW G r9 sa u) ++ (gmW G a h b)))) (some (.int 0)) ([(oa, .inl (G.2 5, 1, .inr (.inl (vp_updL og 0 (Int32.toInt64 ((zCs h b S P u.2.2.2.2).2.2.1))))))] ++ ([(o9, .inr (6, [u0, .ref a.1, u2, .ref r9, u4, u5, u6, u7]))] ++ ((ruW G r9 sa (zCs h b S P u.2.2.2.2)) ++ (gmW G a h b)))) := by
  refine zMetN_of (cc := cL_worstShift) (maxL := 4) (ret := (some .int)) (hh := [(0, 9, 12, 13)]) (by decide) rfl (Nat.le_of_ble_eq_true rfl) ?_
  intro p e s m below meth c A ls hx hb hr htb hml hown hts hK hA hE hN hTh hlocks hin hM hl
  have hown : s.vm.findClass RL = some m.cls := hown
  have hl : lv_has ls 4 [(0, .ref o9), (1, .int 2), (2, .ref oa)] := hl
  refine lv_aload_n hx hb dL_worstShift_0 rfl (lv_at hl 2 rfl) ?_
  refine lv_iconst (v := 0) hx hb dL_worstShift_1 (by decide) ?_
  refine lv_aload_n hx hb dL_worstShift_2 rfl (lv_at hl 0 rfl) ?_
  refine lv_iload_n hx hb dL_worstShift_3 rfl (lv_at hl 1 rfl) ?_
  refine z_callV (As := [.int 2]) (rest := [.int 0, .ref oa]) (wc := ([(o9, .inr (6, [u0, .ref a.1, u2, .ref r9, u4, u5, u6, u7]))] ++ ((ruW G r9 sa u) ++ (gmW G a h b)))) (wr := [(oa, .inl (G.2 5, 1, .inr (.inl og)))]) (w1 := ([(o9, .inr (6, [u0, .ref a.1, u2, .ref r9, u4, u5, u6, u7]))] ++ ((ruW G r9 sa (zCs h b S P u.2.2.2.2)) ++ (gmW G a h b)))) (ws' := [(oa, .inl (G.2 5, 1, .inr (.inl og)))] ++ ([(o9, .inr (6, [u0, .ref a.1, u2, .ref r9, u4, u5, u6, u7]))] ++ ((ruW G r9 sa (zCs h b S P u.2.2.2.2)) ++ (gmW G a h b)))) ⟨hx, hb, hml, hown, hts⟩ (c_x_worst0_2 l G o9 u0 u2 u4 u5 u6 u7 r9 sa u a h b P t S e0 hG) (cwV 1 hts gL_worstShift_X6_worstShift rfl rfl rfl (by decide +kernel) ⟨(Nat.le_of_ble_eq_true rfl), (Nat.le_of_ble_eq_true rfl)⟩) 6 rfl rfl rfl rfl hl.1 rfl (Nat.le_of_ble_eq_true rfl) dL_worstShift_4 ⟨(Nat.le_of_ble_eq_true rfl), (Nat.le_of_ble_eq_true rfl)⟩ hK hE hA hM List.perm_append_comm List.perm_append_comm (fun H locs hM hz => ?_)
  refine lv_i2l (v := Int32.toInt64 ((zCs h b S P u.2.2.2.2).2.2.1)) hx hb dL_worstShift_7 rfl ?_
  refine z_last (ws' := [(oa, .inl (G.2 5, 1, .inr (.inl (vp_updL og 0 (Int32.toInt64 ((zCs h b S P u.2.2.2.2).2.2.1))))))] ++ ([(o9, .inr (6, [u0, .ref a.1, u2, .ref r9, u4, u5, u6, u7]))] ++ ((ruW G r9 sa (zCs h b S P u.2.2.2.2)) ++ (gmW G a h b)))) hx hb hK hM 0 rfl (vp_in_nI (n := 0) (by decide) (by decide)) dL_worstShift_8 rfl (fun H locs hM => ?_)
  refine lv_goto (tgt := 15) hx hb dL_worstShift_9 (by decide) ?_
  refine lv_iconst (v := 0) hx hb dL_worstShift_15 (by decide) ?_
  exact z_iret hx hb hr hlocks dL_worstShift_16 hM (Nat.le_of_ble_eq_true rfl) (Nat.le_of_ble_eq_true rfl) rfl
set_option maxHeartbeats 4000000 in
set_option maxRecDepth 100000 in
theorem w_x_undo1 (l : Launch) (G : zC) (hl0 : l.stackTraces = false) (o9 : Nat) (u0 u1 u2 u3 u4 u6 u7 : Value) (mq mz mk mx : Nat) (ga : Nat → zGA) (mh : Nat → Nat → Int32) (mb : Nat → Nat → Nat → Int32) (hk0 : mk = 0) (oa : Nat) (og : Nat → Int64) : zMetN l G yL_undo wsL_undo rmL_undo [.ref o9, .ref oa] ([(oa, .inl (G.2 5, 1, .inr (.inl og)))] ++ ([(o9, .inr (6, [u0, u1, u2, u3, u4, .ref mq, u6, u7]))] ++ (mmW G mq mz ga mk mx mh mb))) (some (.int 1)) ([(oa, .inl (G.2 5, 1, .inr (.inl og)))] ++ ([(o9, .inr (6, [u0, u1, u2, u3, u4, .ref mq, u6, u7]))] ++ (mmW G mq mz ga mk mx mh mb))) := by
  refine zMetN_of (cc := cL_undo) (maxL := 3) (ret := (some .int)) (hh := [(0, 8, 11, 15)]) (by decide) rfl (Nat.le_of_ble_eq_true rfl) ?_
  intro p e s m below meth c A ls hx hb hr htb hml hown hts hK hA hE hN hTh hlocks hin hM hl
  have hown : s.vm.findClass RL = some m.cls := hown
  have hl : lv_has ls 3 [(0, .ref o9), (1, .ref oa)] := hl
  refine lv_aload_n hx hb dL_undo_0 rfl (lv_at hl 1 rfl) ?_
  refine lv_iconst (v := 0) hx hb dL_undo_1 (by decide) ?_
  refine lv_aload_n hx hb dL_undo_2 rfl (lv_at hl 0 rfl) ?_
  refine z_callVT (As := []) (rest := [.int 0, .ref oa]) (wc := ([(o9, .inr (6, [u0, u1, u2, u3, u4, .ref mq, u6, u7]))] ++ (mmW G mq mz ga mk mx mh mb))) (wr := [(oa, .inl (G.2 5, 1, .inr (.inl og)))]) ⟨hx, hb, hml, hown, hts⟩ (c_x_undo1 l G hl0 o9 u0 u1 u2 u3 u4 u6 u7 mq mz mk mx ga mh mb hk0) (cwV 0 hts gL_undo_X6_undo rfl rfl rfl (by decide +kernel) ⟨(Nat.le_of_ble_eq_true rfl), (Nat.le_of_ble_eq_true rfl)⟩) 6 rfl rfl rfl rfl hl.1 rfl (Nat.le_of_ble_eq_true rfl) dL_undo_3 ⟨(Nat.le_of_ble_eq_true rfl), (Nat.le_of_ble_eq_true rfl)⟩ hK hE hTh hA hM List.perm_append_comm (fun qx9 ce H locs hM hce hcv hcl9 => ?_)
  refine vx_catch (own := RL) (name := "java/lang/IllegalStateException") (E := "java/lang/IllegalStateException") (ce := ce) hown [] ⟨0, 8, 11, 15⟩ [] (htb.trans rfl) (fun z h9 => by cases h9) rfl (by decide) (hts (.classLink RL 15 "java/lang/IllegalStateException") (by decide +kernel)) (va_Nw.use rfl (hTh.2 "java/lang/IllegalStateException" (List.mem_of_getElem? (i := 1) rfl))) hce hcv hcl9 ?_
  refine lv_astore_n (lv' := [(2, .ref qx9), (0, .ref o9), (1, .ref oa)]) hx hb dL_undo_11 rfl hl (by decide) rfl (fun ls hl => ?_)
  refine lv_iconst (v := 1) hx hb dL_undo_12 (by decide) ?_
  exact z_iret hx hb hr hlocks dL_undo_13 hM (Nat.le_of_ble_eq_true rfl) (Nat.le_of_ble_eq_true rfl) rfl
set_option maxHeartbeats 4000000 in
set_option maxRecDepth 100000 in
theorem w_x_undo0 (l : Launch) (G : zC) (o9 : Nat) (u0 u2 u3 u4 u6 u7 : Value) (mq mz mk mx : Nat) (ga : Nat → zGA) (mh : Nat → Nat → Int32) (mb : Nat → Nat → Nat → Int32) (a : zGA) (h : Nat → Int32) (b : Nat → Nat → Int32) (hx14 : mx < 14) (hk14 : mk ≤ 14) (hk1 : 1 ≤ mk) (hz0 : ∀ i, i < 14 → zHz (mh i)) (oa : Nat) (og : Nat → Int64) : zMetN l G yL_undo wsL_undo rmL_undo [.ref o9, .ref oa] ([(oa, .inl (G.2 5, 1, .inr (.inl og)))] ++ ([(o9, .inr (6, [u0, .ref a.1, u2, u3, u4, .ref mq, u6, u7]))] ++ ((mmW G mq mz ga mk mx mh mb) ++ (gmW G a h b)))) (some (.int 0)) ([(oa, .inl (G.2 5, 1, .inr (.inl (vp_updL og 0 (Int32.toInt64 (nI (mk - 1)))))))] ++ ([(o9, .inr (6, [u0, .ref a.1, u2, u3, u4, .ref mq, u6, u7]))] ++ ((mmW G mq mz ga (mk - 1) (zPv mx) mh mb) ++ (gmW G a (mh (zPv mx)) (mb (zPv mx)))))) := by
  refine zMetN_of (cc := cL_undo) (maxL := 3) (ret := (some .int)) (hh := [(0, 8, 11, 15)]) (by decide) rfl (Nat.le_of_ble_eq_true rfl) ?_
  intro p e s m below meth c A ls hx hb hr htb hml hown hts hK hA hE hN hTh hlocks hin hM hl
  have hown : s.vm.findClass RL = some m.cls := hown
  have hl : lv_has ls 3 [(0, .ref o9), (1, .ref oa)] := hl
  refine lv_aload_n hx hb dL_undo_0 rfl (lv_at hl 1 rfl) ?_
  refine lv_iconst (v := 0) hx hb dL_undo_1 (by decide) ?_
  refine lv_aload_n hx hb dL_undo_2 rfl (lv_at hl 0 rfl) ?_
  refine z_callV (As := []) (rest := [.int 0, .ref oa]) (wc := ([(o9, .inr (6, [u0, .ref a.1, u2, u3, u4, .ref mq, u6, u7]))] ++ ((mmW G mq mz ga mk mx mh mb) ++ (gmW G a h b)))) (wr := [(oa, .inl (G.2 5, 1, .inr (.inl og)))]) (w1 := ([(o9, .inr (6, [u0, .ref a.1, u2, u3, u4, .ref mq, u6, u7]))] ++ ((mmW G mq mz ga (mk - 1) (zPv mx) mh mb) ++ (gmW G a (mh (zPv mx)) (mb (zPv mx)))))) (ws' := [(oa, .inl (G.2 5, 1, .inr (.inl og)))] ++ ([(o9, .inr (6, [u0, .ref a.1, u2, u3, u4, .ref mq, u6, u7]))] ++ ((mmW G mq mz ga (mk - 1) (zPv mx) mh mb) ++ (gmW G a (mh (zPv mx)) (mb (zPv mx)))))) ⟨hx, hb, hml, hown, hts⟩ (c_x_undo0 l G o9 u0 u2 u3 u4 u6 u7 mq mz mk mx ga mh mb a h b hx14 hk14 hk1 hz0) (cwV 0 hts gL_undo_X6_undo rfl rfl rfl (by decide +kernel) ⟨(Nat.le_of_ble_eq_true rfl), (Nat.le_of_ble_eq_true rfl)⟩) 6 rfl rfl rfl rfl hl.1 rfl (Nat.le_of_ble_eq_true rfl) dL_undo_3 ⟨(Nat.le_of_ble_eq_true rfl), (Nat.le_of_ble_eq_true rfl)⟩ hK hE hA hM List.perm_append_comm List.perm_append_comm (fun H locs hM hz => ?_)
  refine lv_i2l (v := Int32.toInt64 (nI (mk - 1))) hx hb dL_undo_6 rfl ?_
  refine z_last (ws' := [(oa, .inl (G.2 5, 1, .inr (.inl (vp_updL og 0 (Int32.toInt64 (nI (mk - 1)))))))] ++ ([(o9, .inr (6, [u0, .ref a.1, u2, u3, u4, .ref mq, u6, u7]))] ++ ((mmW G mq mz ga (mk - 1) (zPv mx) mh mb) ++ (gmW G a (mh (zPv mx)) (mb (zPv mx)))))) hx hb hK hM 0 rfl (vp_in_nI (n := 0) (by decide) (by decide)) dL_undo_7 rfl (fun H locs hM => ?_)
  refine lv_goto (tgt := 14) hx hb dL_undo_8 (by decide) ?_
  refine lv_iconst (v := 0) hx hb dL_undo_14 (by decide) ?_
  exact z_iret hx hb hr hlocks dL_undo_15 hM (Nat.le_of_ble_eq_true rfl) (Nat.le_of_ble_eq_true rfl) rfl
set_option maxHeartbeats 4000000 in
set_option maxRecDepth 100000 in
theorem w_x_begin1 (l : Launch) (G : zC) (hl0 : l.stackTraces = false) (o9 : Nat) (u0 u1 u2 u3 u4 u5 u6 u7 : Value) (k9 : Int32) (x9 : Int64) (hc : k9 < 2 ∨ 4 < k9) (oa : Nat) (og : Nat → Int64) : zMetN l G yL_begin wsL_begin rmL_begin [.ref o9, .int k9, .long x9, .ref oa] ([(oa, .inl (G.2 5, 1, .inr (.inl og)))] ++ ([(o9, .inr (6, [u0, u1, u2, u3, u4, u5, u6, u7]))])) (some (.int 1)) ([(oa, .inl (G.2 5, 1, .inr (.inl og)))] ++ ([(o9, .inr (6, [u0, u1, u2, u3, u4, u5, u6, u7]))])) := by
  refine zMetN_of (cc := cL_begin) (maxL := 6) (ret := (some .int)) (hh := [(0, 11, 14, 13)]) (by decide) rfl (Nat.le_of_ble_eq_true rfl) ?_
  intro p e s m below meth c A ls hx hb hr htb hml hown hts hK hA hE hN hTh hlocks hin hM hl
  have hown : s.vm.findClass RL = some m.cls := hown
  have hl : lv_has ls 6 [(0, .ref o9), (1, .int k9), (2, .long x9), (4, .ref oa)] := hl
  refine lv_aload hx hb dL_begin_0 (lv_at hl 3 rfl) ?_
  refine lv_iconst (v := 0) hx hb dL_begin_2 (by decide) ?_
  refine lv_aload_n hx hb dL_begin_3 rfl (lv_at hl 0 rfl) ?_
  refine lv_iload_n hx hb dL_begin_4 rfl (lv_at hl 1 rfl) ?_
  refine lv_lload_n hx hb dL_begin_5 rfl (lv_at hl 2 rfl) ?_
  refine z_callVT (As := [.int k9, .long x9]) (rest := [.int 0, .ref oa]) (wc := ([(o9, .inr (6, [u0, u1, u2, u3, u4, u5, u6, u7]))])) (wr := [(oa, .inl (G.2 5, 1, .inr (.inl og)))]) ⟨hx, hb, hml, hown, hts⟩ (c_x_begin1 l G hl0 o9 u0 u1 u2 u3 u4 u5 u6 u7 k9 x9 hc) (cwV 2 hts gL_begin_X6_begin rfl rfl rfl (by decide +kernel) ⟨(Nat.le_of_ble_eq_true rfl), (Nat.le_of_ble_eq_true rfl)⟩) 6 rfl rfl rfl rfl hl.1 rfl (Nat.le_of_ble_eq_true rfl) dL_begin_6 ⟨(Nat.le_of_ble_eq_true rfl), (Nat.le_of_ble_eq_true rfl)⟩ hK hE hTh hA hM List.perm_append_comm (fun qx9 ce H locs hM hce hcv hcl9 => ?_)
  refine vx_catch (own := RL) (name := "java/lang/IllegalArgumentException") (E := "java/lang/IllegalArgumentException") (ce := ce) hown [] ⟨0, 11, 14, 13⟩ [] (htb.trans rfl) (fun z h9 => by cases h9) rfl (by decide) (hts (.classLink RL 13 "java/lang/IllegalArgumentException") (by decide +kernel)) (va_Nw.use rfl (hTh.2 "java/lang/IllegalArgumentException" (List.mem_of_getElem? (i := 0) rfl))) hce hcv hcl9 ?_
  refine lv_astore (lv' := [(5, .ref qx9), (0, .ref o9), (1, .int k9), (2, .long x9), (4, .ref oa)]) hx hb dL_begin_14 hl (by decide) rfl (fun ls hl => ?_)
  refine lv_iconst (v := 1) hx hb dL_begin_16 (by decide) ?_
  exact z_iret hx hb hr hlocks dL_begin_17 hM (Nat.le_of_ble_eq_true rfl) (Nat.le_of_ble_eq_true rfl) rfl
set_option maxHeartbeats 4000000 in
set_option maxRecDepth 100000 in
theorem w_x_begin0 (l : Launch) (G : zC) (o9 : Nat) (u0 u2 u3 u6 u7 : Value) (d9 : Nat) (x0 : Int64) (mq mz mk mx : Nat) (ga : Nat → zGA) (mh : Nat → Nat → Int32) (mb : Nat → Nat → Nat → Int32) (a : zGA) (h : Nat → Int32) (b : Nat → Nat → Int32) (hx14 : mx < 14) (hk14 : mk ≤ 14) (hzh : zHz h) (j : Nat) (x9 : Int64) (hj2 : 2 ≤ j) (hj4 : j ≤ 4) (oa : Nat) (og : Nat → Int64) : zMetN l G yL_begin wsL_begin rmL_begin [.ref o9, .int (nI j), .long x9, .ref oa] ([(oa, .inl (G.2 5, 1, .inr (.inl og)))] ++ ([(o9, .inr (6, [u0, .ref a.1, u2, u3, .ref d9, .ref mq, u6, u7])), (d9, .inr (1, [.long x0]))] ++ ((mmW G mq mz ga mk mx mh mb) ++ (gmW G a h b)))) (some (.int 0)) ([(oa, .inl (G.2 5, 1, .inr (.inl (vp_updL og 0 (Int32.toInt64 (zSo ((zGd j x9 b).2 0)))))))] ++ ([(o9, .inr (6, [u0, .ref a.1, u2, u3, .ref d9, .ref mq, u6, u7])), (d9, .inr (1, [.long ((zGd j x9 b).1)]))] ++ ((mmW G mq mz ga (zMi mk) (zNe mx) (va_up mh mx h) (va_up mb mx b)) ++ (gmW G a (zGdH h j) ((zGd j x9 b).2))))) := by
  refine zMetN_of (cc := cL_begin) (maxL := 6) (ret := (some .int)) (hh := [(0, 11, 14, 13)]) (by decide) rfl (Nat.le_of_ble_eq_true rfl) ?_
  intro p e s m below meth c A ls hx hb hr htb hml hown hts hK hA hE hN hTh hlocks hin hM hl
  have hown : s.vm.findClass RL = some m.cls := hown
  have hl : lv_has ls 6 [(0, .ref o9), (1, .int (nI j)), (2, .long x9), (4, .ref oa)] := hl
  refine lv_aload hx hb dL_begin_0 (lv_at hl 3 rfl) ?_
  refine lv_iconst (v := 0) hx hb dL_begin_2 (by decide) ?_
  refine lv_aload_n hx hb dL_begin_3 rfl (lv_at hl 0 rfl) ?_
  refine lv_iload_n hx hb dL_begin_4 rfl (lv_at hl 1 rfl) ?_
  refine lv_lload_n hx hb dL_begin_5 rfl (lv_at hl 2 rfl) ?_
  refine z_callV (As := [.int (nI j), .long x9]) (rest := [.int 0, .ref oa]) (wc := ([(o9, .inr (6, [u0, .ref a.1, u2, u3, .ref d9, .ref mq, u6, u7])), (d9, .inr (1, [.long x0]))] ++ ((mmW G mq mz ga mk mx mh mb) ++ (gmW G a h b)))) (wr := [(oa, .inl (G.2 5, 1, .inr (.inl og)))]) (w1 := ([(o9, .inr (6, [u0, .ref a.1, u2, u3, .ref d9, .ref mq, u6, u7])), (d9, .inr (1, [.long ((zGd j x9 b).1)]))] ++ ((mmW G mq mz ga (zMi mk) (zNe mx) (va_up mh mx h) (va_up mb mx b)) ++ (gmW G a (zGdH h j) ((zGd j x9 b).2))))) (ws' := [(oa, .inl (G.2 5, 1, .inr (.inl og)))] ++ ([(o9, .inr (6, [u0, .ref a.1, u2, u3, .ref d9, .ref mq, u6, u7])), (d9, .inr (1, [.long ((zGd j x9 b).1)]))] ++ ((mmW G mq mz ga (zMi mk) (zNe mx) (va_up mh mx h) (va_up mb mx b)) ++ (gmW G a (zGdH h j) ((zGd j x9 b).2))))) ⟨hx, hb, hml, hown, hts⟩ (c_x_begin0 l G o9 u0 u2 u3 u6 u7 d9 x0 mq mz mk mx ga mh mb a h b hx14 hk14 hzh j x9 hj2 hj4) (cwV 2 hts gL_begin_X6_begin rfl rfl rfl (by decide +kernel) ⟨(Nat.le_of_ble_eq_true rfl), (Nat.le_of_ble_eq_true rfl)⟩) 6 rfl rfl rfl rfl hl.1 rfl (Nat.le_of_ble_eq_true rfl) dL_begin_6 ⟨(Nat.le_of_ble_eq_true rfl), (Nat.le_of_ble_eq_true rfl)⟩ hK hE hA hM List.perm_append_comm List.perm_append_comm (fun H locs hM hz => ?_)
  refine lv_i2l (v := Int32.toInt64 (zSo ((zGd j x9 b).2 0))) hx hb dL_begin_9 rfl ?_
  refine z_last (ws' := [(oa, .inl (G.2 5, 1, .inr (.inl (vp_updL og 0 (Int32.toInt64 (zSo ((zGd j x9 b).2 0)))))))] ++ ([(o9, .inr (6, [u0, .ref a.1, u2, u3, .ref d9, .ref mq, u6, u7])), (d9, .inr (1, [.long ((zGd j x9 b).1)]))] ++ ((mmW G mq mz ga (zMi mk) (zNe mx) (va_up mh mx h) (va_up mb mx b)) ++ (gmW G a (zGdH h j) ((zGd j x9 b).2))))) hx hb hK hM 0 rfl (vp_in_nI (n := 0) (by decide) (by decide)) dL_begin_10 rfl (fun H locs hM => ?_)
  refine lv_goto (tgt := 18) hx hb dL_begin_11 (by decide) ?_
  refine lv_iconst (v := 0) hx hb dL_begin_18 (by decide) ?_
  exact z_iret hx hb hr hlocks dL_begin_19 hM (Nat.le_of_ble_eq_true rfl) (Nat.le_of_ble_eq_true rfl) rfl
set_option maxHeartbeats 4000000 in
set_option maxRecDepth 100000 in
theorem w_x_set1 (l : Launch) (G : zC) (hl0 : l.stackTraces = false) (o9 : Nat) (u0 u1 u2 u3 u4 u5 u6 u7 : Value) (k9 v9 : Int32) (hc : zSe k9 = false ∨ v9 < 1 ∨ zHigh k9.toNatClampNeg < v9) (oa : Nat) (og : Nat → Int64) : zMetN l G yL_set wsL_set rmL_set [.ref o9, .int k9, .int v9, .ref oa] ([(oa, .inl (G.2 5, 1, .inr (.inl og)))] ++ ([(o9, .inr (6, [u0, u1, u2, u3, u4, u5, u6, u7]))])) (some (.int 1)) ([(oa, .inl (G.2 5, 1, .inr (.inl og)))] ++ ([(o9, .inr (6, [u0, u1, u2, u3, u4, u5, u6, u7]))])) := by
  refine zMetN_of (cc := cL_set) (maxL := 5) (ret := (some .int)) (hh := [(0, 10, 13, 13)]) (by decide) rfl (Nat.le_of_ble_eq_true rfl) ?_
  intro p e s m below meth c A ls hx hb hr htb hml hown hts hK hA hE hN hTh hlocks hin hM hl
  have hown : s.vm.findClass RL = some m.cls := hown
  have hl : lv_has ls 5 [(0, .ref o9), (1, .int k9), (2, .int v9), (3, .ref oa)] := hl
  refine lv_aload_n hx hb dL_set_0 rfl (lv_at hl 3 rfl) ?_
  refine lv_iconst (v := 0) hx hb dL_set_1 (by decide) ?_
  refine lv_aload_n hx hb dL_set_2 rfl (lv_at hl 0 rfl) ?_
  refine lv_iload_n hx hb dL_set_3 rfl (lv_at hl 1 rfl) ?_
  refine lv_iload_n hx hb dL_set_4 rfl (lv_at hl 2 rfl) ?_
  refine z_callVT (As := [.int k9, .int v9]) (rest := [.int 0, .ref oa]) (wc := ([(o9, .inr (6, [u0, u1, u2, u3, u4, u5, u6, u7]))])) (wr := [(oa, .inl (G.2 5, 1, .inr (.inl og)))]) ⟨hx, hb, hml, hown, hts⟩ (c_x_set1 l G hl0 o9 u0 u1 u2 u3 u4 u5 u6 u7 k9 v9 hc) (cwV 2 hts gL_set_X6_set rfl rfl rfl (by decide +kernel) ⟨(Nat.le_of_ble_eq_true rfl), (Nat.le_of_ble_eq_true rfl)⟩) 6 rfl rfl rfl rfl hl.1 rfl (Nat.le_of_ble_eq_true rfl) dL_set_5 ⟨(Nat.le_of_ble_eq_true rfl), (Nat.le_of_ble_eq_true rfl)⟩ hK hE hTh hA hM List.perm_append_comm (fun qx9 ce H locs hM hce hcv hcl9 => ?_)
  refine vx_catch (own := RL) (name := "java/lang/IllegalArgumentException") (E := "java/lang/IllegalArgumentException") (ce := ce) hown [] ⟨0, 10, 13, 13⟩ [] (htb.trans rfl) (fun z h9 => by cases h9) rfl (by decide) (hts (.classLink RL 13 "java/lang/IllegalArgumentException") (by decide +kernel)) (va_Nw.use rfl (hTh.2 "java/lang/IllegalArgumentException" (List.mem_of_getElem? (i := 0) rfl))) hce hcv hcl9 ?_
  refine lv_astore (lv' := [(4, .ref qx9), (0, .ref o9), (1, .int k9), (2, .int v9), (3, .ref oa)]) hx hb dL_set_13 hl (by decide) rfl (fun ls hl => ?_)
  refine lv_iconst (v := 1) hx hb dL_set_15 (by decide) ?_
  exact z_iret hx hb hr hlocks dL_set_16 hM (Nat.le_of_ble_eq_true rfl) (Nat.le_of_ble_eq_true rfl) rfl
set_option maxHeartbeats 4000000 in
set_option maxRecDepth 100000 in
theorem w_x_set0 (l : Launch) (G : zC) (o9 : Nat) (u0 u2 u3 u4 u6 u7 : Value) (mq mz mk mx : Nat) (ga : Nat → zGA) (mh : Nat → Nat → Int32) (mb : Nat → Nat → Nat → Int32) (a : zGA) (h : Nat → Int32) (b : Nat → Nat → Int32) (hx14 : mx < 14) (hk14 : mk ≤ 14) (hzh : zHz h) (j : Nat) (v9 : Int32) (hj : j < 3) (hc1 : ¬ v9 < 1) (hc2 : ¬ zHigh j < v9) (oa : Nat) (og : Nat → Int64) : zMetN l G yL_set wsL_set rmL_set [.ref o9, .int (nI j), .int v9, .ref oa] ([(oa, .inl (G.2 5, 1, .inr (.inl og)))] ++ ([(o9, .inr (6, [u0, .ref a.1, u2, u3, u4, .ref mq, u6, u7]))] ++ ((mmW G mq mz ga mk mx mh mb) ++ (gmW G a h b)))) (some (.int 0)) ([(oa, .inl (G.2 5, 1, .inr (.inl (vp_updL og 0 (Int32.toInt64 (h (6 + j)))))))] ++ ([(o9, .inr (6, [u0, .ref a.1, u2, u3, u4, .ref mq, u6, u7]))] ++ ((mmW G mq mz ga (zMi mk) (zNe mx) (va_up mh mx h) (va_up mb mx b)) ++ (gmW G a (upd h (6 + j) v9) b)))) := by
  refine zMetN_of (cc := cL_set) (maxL := 5) (ret := (some .int)) (hh := [(0, 10, 13, 13)]) (by decide) rfl (Nat.le_of_ble_eq_true rfl) ?_
  intro p e s m below meth c A ls hx hb hr htb hml hown hts hK hA hE hN hTh hlocks hin hM hl
  have hown : s.vm.findClass RL = some m.cls := hown
  have hl : lv_has ls 5 [(0, .ref o9), (1, .int (nI j)), (2, .int v9), (3, .ref oa)] := hl
  refine lv_aload_n hx hb dL_set_0 rfl (lv_at hl 3 rfl) ?_
  refine lv_iconst (v := 0) hx hb dL_set_1 (by decide) ?_
  refine lv_aload_n hx hb dL_set_2 rfl (lv_at hl 0 rfl) ?_
  refine lv_iload_n hx hb dL_set_3 rfl (lv_at hl 1 rfl) ?_
  refine lv_iload_n hx hb dL_set_4 rfl (lv_at hl 2 rfl) ?_
  refine z_callV (As := [.int (nI j), .int v9]) (rest := [.int 0, .ref oa]) (wc := ([(o9, .inr (6, [u0, .ref a.1, u2, u3, u4, .ref mq, u6, u7]))] ++ ((mmW G mq mz ga mk mx mh mb) ++ (gmW G a h b)))) (wr := [(oa, .inl (G.2 5, 1, .inr (.inl og)))]) (w1 := ([(o9, .inr (6, [u0, .ref a.1, u2, u3, u4, .ref mq, u6, u7]))] ++ ((mmW G mq mz ga (zMi mk) (zNe mx) (va_up mh mx h) (va_up mb mx b)) ++ (gmW G a (upd h (6 + j) v9) b)))) (ws' := [(oa, .inl (G.2 5, 1, .inr (.inl og)))] ++ ([(o9, .inr (6, [u0, .ref a.1, u2, u3, u4, .ref mq, u6, u7]))] ++ ((mmW G mq mz ga (zMi mk) (zNe mx) (va_up mh mx h) (va_up mb mx b)) ++ (gmW G a (upd h (6 + j) v9) b)))) ⟨hx, hb, hml, hown, hts⟩ (c_x_set0 l G o9 u0 u2 u3 u4 u6 u7 mq mz mk mx ga mh mb a h b hx14 hk14 hzh j v9 hj hc1 hc2) (cwV 2 hts gL_set_X6_set rfl rfl rfl (by decide +kernel) ⟨(Nat.le_of_ble_eq_true rfl), (Nat.le_of_ble_eq_true rfl)⟩) 6 rfl rfl rfl rfl hl.1 rfl (Nat.le_of_ble_eq_true rfl) dL_set_5 ⟨(Nat.le_of_ble_eq_true rfl), (Nat.le_of_ble_eq_true rfl)⟩ hK hE hA hM List.perm_append_comm List.perm_append_comm (fun H locs hM hz => ?_)
  refine lv_i2l (v := Int32.toInt64 (h (6 + j))) hx hb dL_set_8 rfl ?_
  refine z_last (ws' := [(oa, .inl (G.2 5, 1, .inr (.inl (vp_updL og 0 (Int32.toInt64 (h (6 + j)))))))] ++ ([(o9, .inr (6, [u0, .ref a.1, u2, u3, u4, .ref mq, u6, u7]))] ++ ((mmW G mq mz ga (zMi mk) (zNe mx) (va_up mh mx h) (va_up mb mx b)) ++ (gmW G a (upd h (6 + j) v9) b)))) hx hb hK hM 0 rfl (vp_in_nI (n := 0) (by decide) (by decide)) dL_set_9 rfl (fun H locs hM => ?_)
  refine lv_goto (tgt := 17) hx hb dL_set_10 (by decide) ?_
  refine lv_iconst (v := 0) hx hb dL_set_17 (by decide) ?_
  exact z_iret hx hb hr hlocks dL_set_18 hM (Nat.le_of_ble_eq_true rfl) (Nat.le_of_ble_eq_true rfl) rfl
set_option maxHeartbeats 4000000 in
set_option maxRecDepth 100000 in
theorem w_x_if1 (l : Launch) (G : zC) (hl0 : l.stackTraces = false) (o9 : Nat) (u0 u2 u3 u4 u5 u6 u7 : Value) (a : zGA) (h : Nat → Int32) (b : Nat → Nat → Int32) (i n9 w9 q9 : Int32) (hc : (zHp h i && zLi n9) = false) (oa : Nat) (og : Nat → Int64) : zMetN l G yL_ifShifted wsL_ifShifted rmL_ifShifted [.ref o9, .int i, .int n9, .int w9, .int q9, .ref oa] ([(oa, .inl (G.2 5, 1, .inr (.inl og)))] ++ ([(o9, .inr (6, [u0, .ref a.1, u2, u3, u4, u5, u6, u7]))] ++ (gmW G a h b))) (some (.int 1)) ([(oa, .inl (G.2 5, 1, .inr (.inl og)))] ++ ([(o9, .inr (6, [u0, .ref a.1, u2, u3, u4, u5, u6, u7]))] ++ (gmW G a h b))) := by
  refine zMetN_of (cc := cL_ifShifted) (maxL := 7) (ret := (some .int)) (hh := [(0, 14, 17, 28), (0, 14, 21, 13)]) (by decide) rfl (Nat.le_of_ble_eq_true rfl) ?_
  intro p e s m below meth c A ls hx hb hr htb hml hown hts hK hA hE hN hTh hlocks hin hM hl
  have hown : s.vm.findClass RL = some m.cls := hown
  have hl : lv_has ls 7 [(0, .ref o9), (1, .int i), (2, .int n9), (3, .int w9), (4, .int q9), (5, .ref oa)] := hl
  refine lv_aload hx hb dL_ifShifted_0 (lv_at hl 5 rfl) ?_
  refine lv_iconst (v := 0) hx hb dL_ifShifted_2 (by decide) ?_
  refine lv_aload_n hx hb dL_ifShifted_3 rfl (lv_at hl 0 rfl) ?_
  refine lv_iload_n hx hb dL_ifShifted_4 rfl (lv_at hl 1 rfl) ?_
  refine lv_iload_n hx hb dL_ifShifted_5 rfl (lv_at hl 2 rfl) ?_
  refine lv_iload_n hx hb dL_ifShifted_6 rfl (lv_at hl 3 rfl) ?_
  refine lv_iload hx hb dL_ifShifted_7 (lv_at hl 4 rfl) ?_
  refine z_callVT (As := [.int i, .int n9, .int w9, .int q9]) (rest := [.int 0, .ref oa]) (wc := ([(o9, .inr (6, [u0, .ref a.1, u2, u3, u4, u5, u6, u7]))] ++ (gmW G a h b))) (wr := [(oa, .inl (G.2 5, 1, .inr (.inl og)))]) ⟨hx, hb, hml, hown, hts⟩ (c_x_if1 l G hl0 o9 u0 u2 u3 u4 u5 u6 u7 a h b i n9 w9 q9 hc) (cwV 4 hts gL_ifShifted_X6_ifShifted rfl rfl rfl (by decide +kernel) ⟨(Nat.le_of_ble_eq_true rfl), (Nat.le_of_ble_eq_true rfl)⟩) 6 rfl rfl rfl rfl hl.1 rfl (Nat.le_of_ble_eq_true rfl) dL_ifShifted_9 ⟨(Nat.le_of_ble_eq_true rfl), (Nat.le_of_ble_eq_true rfl)⟩ hK hE hTh hA hM List.perm_append_comm (fun qx9 ce H locs hM hce hcv hcl9 => ?_)
  refine vx_catch (own := RL) (name := "java/lang/IndexOutOfBoundsException") (E := "java/lang/IndexOutOfBoundsException") (ce := ce) hown [] ⟨0, 14, 17, 28⟩ [⟨0, 14, 21, 13⟩] (htb.trans rfl) (fun z h9 => by cases h9) rfl (by decide) (hts (.classLink RL 28 "java/lang/IndexOutOfBoundsException") (by decide +kernel)) (va_Nw.use rfl (hTh.2 "java/lang/IndexOutOfBoundsException" (List.mem_of_getElem? (i := 2) rfl))) hce hcv hcl9 ?_
  refine lv_astore (lv' := [(6, .ref qx9), (0, .ref o9), (1, .int i), (2, .int n9), (3, .int w9), (4, .int q9), (5, .ref oa)]) hx hb dL_ifShifted_17 hl (by decide) rfl (fun ls hl => ?_)
  refine lv_iconst (v := 1) hx hb dL_ifShifted_19 (by decide) ?_
  exact z_iret hx hb hr hlocks dL_ifShifted_20 hM (Nat.le_of_ble_eq_true rfl) (Nat.le_of_ble_eq_true rfl) rfl
set_option maxHeartbeats 4000000 in
set_option maxRecDepth 100000 in
theorem w_x_if2 (l : Launch) (G : zC) (hl0 : l.stackTraces = false) (o9 : Nat) (u0 u2 u3 u4 u5 u6 u7 : Value) (a : zGA) (h : Nat → Int32) (b : Nat → Nat → Int32) (i n9 w9 q9 : Int32) (hi : zHp h i = true) (hn : zLi n9 = true) (hc : zDi w9 = false ∨ q9 < 0 ∨ 1 < q9) (oa : Nat) (og : Nat → Int64) : zMetN l G yL_ifShifted wsL_ifShifted rmL_ifShifted [.ref o9, .int i, .int n9, .int w9, .int q9, .ref oa] ([(oa, .inl (G.2 5, 1, .inr (.inl og)))] ++ ([(o9, .inr (6, [u0, .ref a.1, u2, u3, u4, u5, u6, u7]))] ++ (gmW G a h b))) (some (.int 2)) ([(oa, .inl (G.2 5, 1, .inr (.inl og)))] ++ ([(o9, .inr (6, [u0, .ref a.1, u2, u3, u4, u5, u6, u7]))] ++ (gmW G a h b))) := by
  refine zMetN_of (cc := cL_ifShifted) (maxL := 7) (ret := (some .int)) (hh := [(0, 14, 17, 28), (0, 14, 21, 13)]) (by decide) rfl (Nat.le_of_ble_eq_true rfl) ?_
  intro p e s m below meth c A ls hx hb hr htb hml hown hts hK hA hE hN hTh hlocks hin hM hl
  have hown : s.vm.findClass RL = some m.cls := hown
  have hl : lv_has ls 7 [(0, .ref o9), (1, .int i), (2, .int n9), (3, .int w9), (4, .int q9), (5, .ref oa)] := hl
  refine lv_aload hx hb dL_ifShifted_0 (lv_at hl 5 rfl) ?_
  refine lv_iconst (v := 0) hx hb dL_ifShifted_2 (by decide) ?_
  refine lv_aload_n hx hb dL_ifShifted_3 rfl (lv_at hl 0 rfl) ?_
  refine lv_iload_n hx hb dL_ifShifted_4 rfl (lv_at hl 1 rfl) ?_
  refine lv_iload_n hx hb dL_ifShifted_5 rfl (lv_at hl 2 rfl) ?_
  refine lv_iload_n hx hb dL_ifShifted_6 rfl (lv_at hl 3 rfl) ?_
  refine lv_iload hx hb dL_ifShifted_7 (lv_at hl 4 rfl) ?_
  refine z_callVT (As := [.int i, .int n9, .int w9, .int q9]) (rest := [.int 0, .ref oa]) (wc := ([(o9, .inr (6, [u0, .ref a.1, u2, u3, u4, u5, u6, u7]))] ++ (gmW G a h b))) (wr := [(oa, .inl (G.2 5, 1, .inr (.inl og)))]) ⟨hx, hb, hml, hown, hts⟩ (c_x_if2 l G hl0 o9 u0 u2 u3 u4 u5 u6 u7 a h b i n9 w9 q9 hi hn hc) (cwV 4 hts gL_ifShifted_X6_ifShifted rfl rfl rfl (by decide +kernel) ⟨(Nat.le_of_ble_eq_true rfl), (Nat.le_of_ble_eq_true rfl)⟩) 6 rfl rfl rfl rfl hl.1 rfl (Nat.le_of_ble_eq_true rfl) dL_ifShifted_9 ⟨(Nat.le_of_ble_eq_true rfl), (Nat.le_of_ble_eq_true rfl)⟩ hK hE hTh hA hM List.perm_append_comm (fun qx9 ce H locs hM hce hcv hcl9 => ?_)
  refine vx_catch (own := RL) (name := "java/lang/IllegalArgumentException") (E := "java/lang/IllegalArgumentException") (ce := ce) hown [⟨0, 14, 17, 28⟩] ⟨0, 14, 21, 13⟩ [] (htb.trans rfl) (fun z h9 => by cases List.mem_singleton.mp h9; exact Or.inr ⟨by decide, "java/lang/IndexOutOfBoundsException", hts (.classLink RL 28 "java/lang/IndexOutOfBoundsException") (by decide +kernel), hN ("java/lang/IllegalArgumentException", "java/lang/IndexOutOfBoundsException") (List.mem_of_getElem? (i := 1) rfl)⟩) rfl (by decide) (hts (.classLink RL 13 "java/lang/IllegalArgumentException") (by decide +kernel)) (va_Nw.use rfl (hTh.2 "java/lang/IllegalArgumentException" (List.mem_of_getElem? (i := 0) rfl))) hce hcv hcl9 ?_
  refine lv_astore (lv' := [(6, .ref qx9), (0, .ref o9), (1, .int i), (2, .int n9), (3, .int w9), (4, .int q9), (5, .ref oa)]) hx hb dL_ifShifted_21 hl (by decide) rfl (fun ls hl => ?_)
  refine lv_iconst (v := 2) hx hb dL_ifShifted_23 (by decide) ?_
  exact z_iret hx hb hr hlocks dL_ifShifted_24 hM (Nat.le_of_ble_eq_true rfl) (Nat.le_of_ble_eq_true rfl) rfl
set_option maxHeartbeats 4000000 in
set_option maxRecDepth 100000 in
theorem w_x_if0_0 (l : Launch) (G : zC) (o9 : Nat) (u0 u3 u4 u5 u6 u7 : Value) (a : zGA) (h : Nat → Int32) (b : Nat → Nat → Int32) (ta : zGA) (th : Nat → Int32) (tb : Nat → Nat → Int32) (P t S e0 : Nat) (hG : zGs h b P t S e0) (o : Nat) (ho : o < P) (i : Nat) (w9 : Int32) (hi6 : i < 6) (hd : zDi w9 = true) (oa : Nat) (og : Nat → Int64) : zMetN l G yL_ifShifted wsL_ifShifted rmL_ifShifted [.ref o9, .int (nI o), .int (nI i), .int w9, .int 0, .ref oa] ([(oa, .inl (G.2 5, 1, .inr (.inl og)))] ++ ([(o9, .inr (6, [u0, .ref a.1, .ref ta.1, u3, u4, u5, u6, u7]))] ++ ((gmW G a h b) ++ (gmW G ta th tb)))) (some (.int 0)) ([(oa, .inl (G.2 5, 1, .inr (.inl (vp_updL og 0 (Int32.toInt64 (zRch (zMv (b o) i w9) S))))))] ++ ([(o9, .inr (6, [u0, .ref a.1, .ref ta.1, u3, u4, u5, u6, u7]))] ++ ((gmW G a h b) ++ (gmW G ta h (va_up b o (zMv (b o) i w9)))))) := by
  refine zMetN_of (cc := cL_ifShifted) (maxL := 7) (ret := (some .int)) (hh := [(0, 14, 17, 28), (0, 14, 21, 13)]) (by decide) rfl (Nat.le_of_ble_eq_true rfl) ?_
  intro p e s m below meth c A ls hx hb hr htb hml hown hts hK hA hE hN hTh hlocks hin hM hl
  have hown : s.vm.findClass RL = some m.cls := hown
  have hl : lv_has ls 7 [(0, .ref o9), (1, .int (nI o)), (2, .int (nI i)), (3, .int w9), (4, .int 0), (5, .ref oa)] := hl
  refine lv_aload hx hb dL_ifShifted_0 (lv_at hl 5 rfl) ?_
  refine lv_iconst (v := 0) hx hb dL_ifShifted_2 (by decide) ?_
  refine lv_aload_n hx hb dL_ifShifted_3 rfl (lv_at hl 0 rfl) ?_
  refine lv_iload_n hx hb dL_ifShifted_4 rfl (lv_at hl 1 rfl) ?_
  refine lv_iload_n hx hb dL_ifShifted_5 rfl (lv_at hl 2 rfl) ?_
  refine lv_iload_n hx hb dL_ifShifted_6 rfl (lv_at hl 3 rfl) ?_
  refine lv_iload hx hb dL_ifShifted_7 (lv_at hl 4 rfl) ?_
  refine z_callV (As := [.int (nI o), .int (nI i), .int w9, .int 0]) (rest := [.int 0, .ref oa]) (wc := ([(o9, .inr (6, [u0, .ref a.1, .ref ta.1, u3, u4, u5, u6, u7]))] ++ ((gmW G a h b) ++ (gmW G ta th tb)))) (wr := [(oa, .inl (G.2 5, 1, .inr (.inl og)))]) (w1 := ([(o9, .inr (6, [u0, .ref a.1, .ref ta.1, u3, u4, u5, u6, u7]))] ++ ((gmW G a h b) ++ (gmW G ta h (va_up b o (zMv (b o) i w9)))))) (ws' := [(oa, .inl (G.2 5, 1, .inr (.inl og)))] ++ ([(o9, .inr (6, [u0, .ref a.1, .ref ta.1, u3, u4, u5, u6, u7]))] ++ ((gmW G a h b) ++ (gmW G ta h (va_up b o (zMv (b o) i w9)))))) ⟨hx, hb, hml, hown, hts⟩ (c_x_if0_0 l G o9 u0 u3 u4 u5 u6 u7 a h b ta th tb P t S e0 hG o ho i w9 hi6 hd) (cwV 4 hts gL_ifShifted_X6_ifShifted rfl rfl rfl (by decide +kernel) ⟨(Nat.le_of_ble_eq_true rfl), (Nat.le_of_ble_eq_true rfl)⟩) 6 rfl rfl rfl rfl hl.1 rfl (Nat.le_of_ble_eq_true rfl) dL_ifShifted_9 ⟨(Nat.le_of_ble_eq_true rfl), (Nat.le_of_ble_eq_true rfl)⟩ hK hE hA hM List.perm_append_comm List.perm_append_comm (fun H locs hM hz => ?_)
  refine lv_i2l (v := Int32.toInt64 (zRch (zMv (b o) i w9) S)) hx hb dL_ifShifted_12 rfl ?_
  refine z_last (ws' := [(oa, .inl (G.2 5, 1, .inr (.inl (vp_updL og 0 (Int32.toInt64 (zRch (zMv (b o) i w9) S))))))] ++ ([(o9, .inr (6, [u0, .ref a.1, .ref ta.1, u3, u4, u5, u6, u7]))] ++ ((gmW G a h b) ++ (gmW G ta h (va_up b o (zMv (b o) i w9)))))) hx hb hK hM 0 rfl (vp_in_nI (n := 0) (by decide) (by decide)) dL_ifShifted_13 rfl (fun H locs hM => ?_)
  refine lv_goto (tgt := 25) hx hb dL_ifShifted_14 (by decide) ?_
  refine lv_iconst (v := 0) hx hb dL_ifShifted_25 (by decide) ?_
  exact z_iret hx hb hr hlocks dL_ifShifted_26 hM (Nat.le_of_ble_eq_true rfl) (Nat.le_of_ble_eq_true rfl) rfl
set_option maxHeartbeats 4000000 in
set_option maxRecDepth 100000 in
theorem w_x_if0_1 (l : Launch) (G : zC) (o9 : Nat) (u0 u3 u4 u5 u6 u7 : Value) (a : zGA) (h : Nat → Int32) (b : Nat → Nat → Int32) (ta : zGA) (th : Nat → Int32) (tb : Nat → Nat → Int32) (P t S e0 : Nat) (hG : zGs h b P t S e0) (o : Nat) (ho : o < P) (i : Nat) (w9 : Int32) (hi6 : i < 6) (hd : zDi w9 = true) (oa : Nat) (og : Nat → Int64) : zMetN l G yL_ifShifted wsL_ifShifted rmL_ifShifted [.ref o9, .int (nI o), .int (nI i), .int w9, .int 1, .ref oa] ([(oa, .inl (G.2 5, 1, .inr (.inl og)))] ++ ([(o9, .inr (6, [u0, .ref a.1, .ref ta.1, u3, u4, u5, u6, u7]))] ++ ((gmW G a h b) ++ (gmW G ta th tb)))) (some (.int 0)) ([(oa, .inl (G.2 5, 1, .inr (.inl (vp_updL og 0 (Int32.toInt64 (zb (zIn (zRch (zMv (b o) i w9) S) (zSp (zMv (b o) i w9)))))))))] ++ ([(o9, .inr (6, [u0, .ref a.1, .ref ta.1, u3, u4, u5, u6, u7]))] ++ ((gmW G a h b) ++ (gmW G ta h (va_up b o (zMv (b o) i w9)))))) := by
  refine zMetN_of (cc := cL_ifShifted) (maxL := 7) (ret := (some .int)) (hh := [(0, 14, 17, 28), (0, 14, 21, 13)]) (by decide) rfl (Nat.le_of_ble_eq_true rfl) ?_
  intro p e s m below meth c A ls hx hb hr htb hml hown hts hK hA hE hN hTh hlocks hin hM hl
  have hown : s.vm.findClass RL = some m.cls := hown
  have hl : lv_has ls 7 [(0, .ref o9), (1, .int (nI o)), (2, .int (nI i)), (3, .int w9), (4, .int 1), (5, .ref oa)] := hl
  refine lv_aload hx hb dL_ifShifted_0 (lv_at hl 5 rfl) ?_
  refine lv_iconst (v := 0) hx hb dL_ifShifted_2 (by decide) ?_
  refine lv_aload_n hx hb dL_ifShifted_3 rfl (lv_at hl 0 rfl) ?_
  refine lv_iload_n hx hb dL_ifShifted_4 rfl (lv_at hl 1 rfl) ?_
  refine lv_iload_n hx hb dL_ifShifted_5 rfl (lv_at hl 2 rfl) ?_
  refine lv_iload_n hx hb dL_ifShifted_6 rfl (lv_at hl 3 rfl) ?_
  refine lv_iload hx hb dL_ifShifted_7 (lv_at hl 4 rfl) ?_
  refine z_callV (As := [.int (nI o), .int (nI i), .int w9, .int 1]) (rest := [.int 0, .ref oa]) (wc := ([(o9, .inr (6, [u0, .ref a.1, .ref ta.1, u3, u4, u5, u6, u7]))] ++ ((gmW G a h b) ++ (gmW G ta th tb)))) (wr := [(oa, .inl (G.2 5, 1, .inr (.inl og)))]) (w1 := ([(o9, .inr (6, [u0, .ref a.1, .ref ta.1, u3, u4, u5, u6, u7]))] ++ ((gmW G a h b) ++ (gmW G ta h (va_up b o (zMv (b o) i w9)))))) (ws' := [(oa, .inl (G.2 5, 1, .inr (.inl og)))] ++ ([(o9, .inr (6, [u0, .ref a.1, .ref ta.1, u3, u4, u5, u6, u7]))] ++ ((gmW G a h b) ++ (gmW G ta h (va_up b o (zMv (b o) i w9)))))) ⟨hx, hb, hml, hown, hts⟩ (c_x_if0_1 l G o9 u0 u3 u4 u5 u6 u7 a h b ta th tb P t S e0 hG o ho i w9 hi6 hd) (cwV 4 hts gL_ifShifted_X6_ifShifted rfl rfl rfl (by decide +kernel) ⟨(Nat.le_of_ble_eq_true rfl), (Nat.le_of_ble_eq_true rfl)⟩) 6 rfl rfl rfl rfl hl.1 rfl (Nat.le_of_ble_eq_true rfl) dL_ifShifted_9 ⟨(Nat.le_of_ble_eq_true rfl), (Nat.le_of_ble_eq_true rfl)⟩ hK hE hA hM List.perm_append_comm List.perm_append_comm (fun H locs hM hz => ?_)
  refine lv_i2l (v := Int32.toInt64 (zb (zIn (zRch (zMv (b o) i w9) S) (zSp (zMv (b o) i w9))))) hx hb dL_ifShifted_12 rfl ?_
  refine z_last (ws' := [(oa, .inl (G.2 5, 1, .inr (.inl (vp_updL og 0 (Int32.toInt64 (zb (zIn (zRch (zMv (b o) i w9) S) (zSp (zMv (b o) i w9)))))))))] ++ ([(o9, .inr (6, [u0, .ref a.1, .ref ta.1, u3, u4, u5, u6, u7]))] ++ ((gmW G a h b) ++ (gmW G ta h (va_up b o (zMv (b o) i w9)))))) hx hb hK hM 0 rfl (vp_in_nI (n := 0) (by decide) (by decide)) dL_ifShifted_13 rfl (fun H locs hM => ?_)
  refine lv_goto (tgt := 25) hx hb dL_ifShifted_14 (by decide) ?_
  refine lv_iconst (v := 0) hx hb dL_ifShifted_25 (by decide) ?_
  exact z_iret hx hb hr hlocks dL_ifShifted_26 hM (Nat.le_of_ble_eq_true rfl) (Nat.le_of_ble_eq_true rfl) rfl
set_option maxHeartbeats 4000000 in
set_option maxRecDepth 100000 in
theorem w_x_save1 (l : Launch) (G : zC) (hl0 : l.stackTraces = false) (o9 : Nat) (u0 u1 u2 u3 u4 u5 u6 u7 : Value) (k9 : Int32) (hc : zSl k9 = false) (oa : Nat) (og : Nat → Int64) : zMetN l G yL_save wsL_save rmL_save [.ref o9, .int k9, .ref oa] ([(oa, .inl (G.2 5, 1, .inr (.inl og)))] ++ ([(o9, .inr (6, [u0, u1, u2, u3, u4, u5, u6, u7]))])) (some (.int 1)) ([(oa, .inl (G.2 5, 1, .inr (.inl og)))] ++ ([(o9, .inr (6, [u0, u1, u2, u3, u4, u5, u6, u7]))])) := by
  refine zMetN_of (cc := cL_save) (maxL := 4) (ret := (some .int)) (hh := [(0, 9, 12, 28)]) (by decide) rfl (Nat.le_of_ble_eq_true rfl) ?_
  intro p e s m below meth c A ls hx hb hr htb hml hown hts hK hA hE hN hTh hlocks hin hM hl
  have hown : s.vm.findClass RL = some m.cls := hown
  have hl : lv_has ls 4 [(0, .ref o9), (1, .int k9), (2, .ref oa)] := hl
  refine lv_aload_n hx hb dL_save_0 rfl (lv_at hl 2 rfl) ?_
  refine lv_iconst (v := 0) hx hb dL_save_1 (by decide) ?_
  refine lv_aload_n hx hb dL_save_2 rfl (lv_at hl 0 rfl) ?_
  refine lv_iload_n hx hb dL_save_3 rfl (lv_at hl 1 rfl) ?_
  refine z_callVT (As := [.int k9]) (rest := [.int 0, .ref oa]) (wc := ([(o9, .inr (6, [u0, u1, u2, u3, u4, u5, u6, u7]))])) (wr := [(oa, .inl (G.2 5, 1, .inr (.inl og)))]) ⟨hx, hb, hml, hown, hts⟩ (c_x_save1 l G hl0 o9 u0 u1 u2 u3 u4 u5 u6 u7 k9 hc) (cwV 1 hts gL_save_X6_save rfl rfl rfl (by decide +kernel) ⟨(Nat.le_of_ble_eq_true rfl), (Nat.le_of_ble_eq_true rfl)⟩) 6 rfl rfl rfl rfl hl.1 rfl (Nat.le_of_ble_eq_true rfl) dL_save_4 ⟨(Nat.le_of_ble_eq_true rfl), (Nat.le_of_ble_eq_true rfl)⟩ hK hE hTh hA hM List.perm_append_comm (fun qx9 ce H locs hM hce hcv hcl9 => ?_)
  refine vx_catch (own := RL) (name := "java/lang/IndexOutOfBoundsException") (E := "java/lang/IndexOutOfBoundsException") (ce := ce) hown [] ⟨0, 9, 12, 28⟩ [] (htb.trans rfl) (fun z h9 => by cases h9) rfl (by decide) (hts (.classLink RL 28 "java/lang/IndexOutOfBoundsException") (by decide +kernel)) (va_Nw.use rfl (hTh.2 "java/lang/IndexOutOfBoundsException" (List.mem_of_getElem? (i := 2) rfl))) hce hcv hcl9 ?_
  refine lv_astore_n (lv' := [(3, .ref qx9), (0, .ref o9), (1, .int k9), (2, .ref oa)]) hx hb dL_save_12 rfl hl (by decide) rfl (fun ls hl => ?_)
  refine lv_iconst (v := 1) hx hb dL_save_13 (by decide) ?_
  exact z_iret hx hb hr hlocks dL_save_14 hM (Nat.le_of_ble_eq_true rfl) (Nat.le_of_ble_eq_true rfl) rfl
set_option maxHeartbeats 4000000 in
set_option maxRecDepth 100000 in
theorem w_x_save0 (l : Launch) (G : zC) (o9 : Nat) (u0 u2 u3 u4 u5 : Value) (s9 b9 : Nat) (sg : Nat → zGA) (sh : Nat → Nat → Int32) (sb : Nat → Nat → Nat → Int32) (K : Nat → Int32) (a : zGA) (h : Nat → Int32) (b : Nat → Nat → Int32) (hzh : zHz h) (j : Nat) (hj2 : j < 2) (oa : Nat) (og : Nat → Int64) : zMetN l G yL_save wsL_save rmL_save [.ref o9, .int (nI j), .ref oa] ([(oa, .inl (G.2 5, 1, .inr (.inl og)))] ++ ([(o9, .inr (6, [u0, .ref a.1, u2, u3, u4, u5, .ref s9, .ref b9])), (s9, .inl (G.2 4, 2, .inr (.inr (.inr (.inr (fun i => some (sg i).1)))))), (b9, .inl (G.2 2, 2, .inl K))] ++ ((fm 2 (gsF G sg sh sb)) ++ (gmW G a h b)))) (some (.int 0)) ([(oa, .inl (G.2 5, 1, .inr (.inl (vp_updL og 0 (Int32.toInt64 (h 0))))))] ++ ([(o9, .inr (6, [u0, .ref a.1, u2, u3, u4, u5, .ref s9, .ref b9])), (s9, .inl (G.2 4, 2, .inr (.inr (.inr (.inr (fun i => some (sg i).1)))))), (b9, .inl (G.2 2, 2, .inl (upd K j 1)))] ++ ((fm 2 (gsF G sg (va_up sh j h) (va_up sb j b))) ++ (gmW G a h b)))) := by
  refine zMetN_of (cc := cL_save) (maxL := 4) (ret := (some .int)) (hh := [(0, 9, 12, 28)]) (by decide) rfl (Nat.le_of_ble_eq_true rfl) ?_
  intro p e s m below meth c A ls hx hb hr htb hml hown hts hK hA hE hN hTh hlocks hin hM hl
  have hown : s.vm.findClass RL = some m.cls := hown
  have hl : lv_has ls 4 [(0, .ref o9), (1, .int (nI j)), (2, .ref oa)] := hl
  refine lv_aload_n hx hb dL_save_0 rfl (lv_at hl 2 rfl) ?_
  refine lv_iconst (v := 0) hx hb dL_save_1 (by decide) ?_
  refine lv_aload_n hx hb dL_save_2 rfl (lv_at hl 0 rfl) ?_
  refine lv_iload_n hx hb dL_save_3 rfl (lv_at hl 1 rfl) ?_
  refine z_callV (As := [.int (nI j)]) (rest := [.int 0, .ref oa]) (wc := ([(o9, .inr (6, [u0, .ref a.1, u2, u3, u4, u5, .ref s9, .ref b9])), (s9, .inl (G.2 4, 2, .inr (.inr (.inr (.inr (fun i => some (sg i).1)))))), (b9, .inl (G.2 2, 2, .inl K))] ++ ((fm 2 (gsF G sg sh sb)) ++ (gmW G a h b)))) (wr := [(oa, .inl (G.2 5, 1, .inr (.inl og)))]) (w1 := ([(o9, .inr (6, [u0, .ref a.1, u2, u3, u4, u5, .ref s9, .ref b9])), (s9, .inl (G.2 4, 2, .inr (.inr (.inr (.inr (fun i => some (sg i).1)))))), (b9, .inl (G.2 2, 2, .inl (upd K j 1)))] ++ ((fm 2 (gsF G sg (va_up sh j h) (va_up sb j b))) ++ (gmW G a h b)))) (ws' := [(oa, .inl (G.2 5, 1, .inr (.inl og)))] ++ ([(o9, .inr (6, [u0, .ref a.1, u2, u3, u4, u5, .ref s9, .ref b9])), (s9, .inl (G.2 4, 2, .inr (.inr (.inr (.inr (fun i => some (sg i).1)))))), (b9, .inl (G.2 2, 2, .inl (upd K j 1)))] ++ ((fm 2 (gsF G sg (va_up sh j h) (va_up sb j b))) ++ (gmW G a h b)))) ⟨hx, hb, hml, hown, hts⟩ (c_x_save0 l G o9 u0 u2 u3 u4 u5 s9 b9 sg sh sb K a h b hzh j hj2) (cwV 1 hts gL_save_X6_save rfl rfl rfl (by decide +kernel) ⟨(Nat.le_of_ble_eq_true rfl), (Nat.le_of_ble_eq_true rfl)⟩) 6 rfl rfl rfl rfl hl.1 rfl (Nat.le_of_ble_eq_true rfl) dL_save_4 ⟨(Nat.le_of_ble_eq_true rfl), (Nat.le_of_ble_eq_true rfl)⟩ hK hE hA hM List.perm_append_comm List.perm_append_comm (fun H locs hM hz => ?_)
  refine lv_i2l (v := Int32.toInt64 (h 0)) hx hb dL_save_7 rfl ?_
  refine z_last (ws' := [(oa, .inl (G.2 5, 1, .inr (.inl (vp_updL og 0 (Int32.toInt64 (h 0))))))] ++ ([(o9, .inr (6, [u0, .ref a.1, u2, u3, u4, u5, .ref s9, .ref b9])), (s9, .inl (G.2 4, 2, .inr (.inr (.inr (.inr (fun i => some (sg i).1)))))), (b9, .inl (G.2 2, 2, .inl (upd K j 1)))] ++ ((fm 2 (gsF G sg (va_up sh j h) (va_up sb j b))) ++ (gmW G a h b)))) hx hb hK hM 0 rfl (vp_in_nI (n := 0) (by decide) (by decide)) dL_save_8 rfl (fun H locs hM => ?_)
  refine lv_goto (tgt := 15) hx hb dL_save_9 (by decide) ?_
  refine lv_iconst (v := 0) hx hb dL_save_15 (by decide) ?_
  exact z_iret hx hb hr hlocks dL_save_16 hM (Nat.le_of_ble_eq_true rfl) (Nat.le_of_ble_eq_true rfl) rfl
set_option maxHeartbeats 4000000 in
set_option maxRecDepth 100000 in
theorem w_x_restore1 (l : Launch) (G : zC) (hl0 : l.stackTraces = false) (o9 : Nat) (u0 u1 u2 u3 u4 u5 u6 u7 : Value) (k9 : Int32) (hc : zSl k9 = false) (oa : Nat) (og : Nat → Int64) : zMetN l G yL_restore wsL_restore rmL_restore [.ref o9, .int k9, .ref oa] ([(oa, .inl (G.2 5, 1, .inr (.inl og)))] ++ ([(o9, .inr (6, [u0, u1, u2, u3, u4, u5, u6, u7]))])) (some (.int 1)) ([(oa, .inl (G.2 5, 1, .inr (.inl og)))] ++ ([(o9, .inr (6, [u0, u1, u2, u3, u4, u5, u6, u7]))])) := by
  refine zMetN_of (cc := cL_restore) (maxL := 4) (ret := (some .int)) (hh := [(0, 9, 12, 28), (0, 9, 15, 15)]) (by decide) rfl (Nat.le_of_ble_eq_true rfl) ?_
  intro p e s m below meth c A ls hx hb hr htb hml hown hts hK hA hE hN hTh hlocks hin hM hl
  have hown : s.vm.findClass RL = some m.cls := hown
  have hl : lv_has ls 4 [(0, .ref o9), (1, .int k9), (2, .ref oa)] := hl
  refine lv_aload_n hx hb dL_restore_0 rfl (lv_at hl 2 rfl) ?_
  refine lv_iconst (v := 0) hx hb dL_restore_1 (by decide) ?_
  refine lv_aload_n hx hb dL_restore_2 rfl (lv_at hl 0 rfl) ?_
  refine lv_iload_n hx hb dL_restore_3 rfl (lv_at hl 1 rfl) ?_
  refine z_callVT (As := [.int k9]) (rest := [.int 0, .ref oa]) (wc := ([(o9, .inr (6, [u0, u1, u2, u3, u4, u5, u6, u7]))])) (wr := [(oa, .inl (G.2 5, 1, .inr (.inl og)))]) ⟨hx, hb, hml, hown, hts⟩ (c_x_restore1 l G hl0 o9 u0 u1 u2 u3 u4 u5 u6 u7 k9 hc) (cwV 1 hts gL_restore_X6_restore rfl rfl rfl (by decide +kernel) ⟨(Nat.le_of_ble_eq_true rfl), (Nat.le_of_ble_eq_true rfl)⟩) 6 rfl rfl rfl rfl hl.1 rfl (Nat.le_of_ble_eq_true rfl) dL_restore_4 ⟨(Nat.le_of_ble_eq_true rfl), (Nat.le_of_ble_eq_true rfl)⟩ hK hE hTh hA hM List.perm_append_comm (fun qx9 ce H locs hM hce hcv hcl9 => ?_)
  refine vx_catch (own := RL) (name := "java/lang/IndexOutOfBoundsException") (E := "java/lang/IndexOutOfBoundsException") (ce := ce) hown [] ⟨0, 9, 12, 28⟩ [⟨0, 9, 15, 15⟩] (htb.trans rfl) (fun z h9 => by cases h9) rfl (by decide) (hts (.classLink RL 28 "java/lang/IndexOutOfBoundsException") (by decide +kernel)) (va_Nw.use rfl (hTh.2 "java/lang/IndexOutOfBoundsException" (List.mem_of_getElem? (i := 2) rfl))) hce hcv hcl9 ?_
  refine lv_astore_n (lv' := [(3, .ref qx9), (0, .ref o9), (1, .int k9), (2, .ref oa)]) hx hb dL_restore_12 rfl hl (by decide) rfl (fun ls hl => ?_)
  refine lv_iconst (v := 1) hx hb dL_restore_13 (by decide) ?_
  exact z_iret hx hb hr hlocks dL_restore_14 hM (Nat.le_of_ble_eq_true rfl) (Nat.le_of_ble_eq_true rfl) rfl
set_option maxHeartbeats 4000000 in
set_option maxRecDepth 100000 in
theorem w_x_restore2 (l : Launch) (G : zC) (hl0 : l.stackTraces = false) (o9 : Nat) (u0 u1 u2 u3 u4 u5 u6 : Value) (b9 : Nat) (K : Nat → Int32) (j : Nat) (hj2 : j < 2) (hk : K j = 0) (oa : Nat) (og : Nat → Int64) : zMetN l G yL_restore wsL_restore rmL_restore [.ref o9, .int (nI j), .ref oa] ([(oa, .inl (G.2 5, 1, .inr (.inl og)))] ++ ([(o9, .inr (6, [u0, u1, u2, u3, u4, u5, u6, .ref b9])), (b9, .inl (G.2 2, 2, .inl K))])) (some (.int 2)) ([(oa, .inl (G.2 5, 1, .inr (.inl og)))] ++ ([(o9, .inr (6, [u0, u1, u2, u3, u4, u5, u6, .ref b9])), (b9, .inl (G.2 2, 2, .inl K))])) := by
  refine zMetN_of (cc := cL_restore) (maxL := 4) (ret := (some .int)) (hh := [(0, 9, 12, 28), (0, 9, 15, 15)]) (by decide) rfl (Nat.le_of_ble_eq_true rfl) ?_
  intro p e s m below meth c A ls hx hb hr htb hml hown hts hK hA hE hN hTh hlocks hin hM hl
  have hown : s.vm.findClass RL = some m.cls := hown
  have hl : lv_has ls 4 [(0, .ref o9), (1, .int (nI j)), (2, .ref oa)] := hl
  refine lv_aload_n hx hb dL_restore_0 rfl (lv_at hl 2 rfl) ?_
  refine lv_iconst (v := 0) hx hb dL_restore_1 (by decide) ?_
  refine lv_aload_n hx hb dL_restore_2 rfl (lv_at hl 0 rfl) ?_
  refine lv_iload_n hx hb dL_restore_3 rfl (lv_at hl 1 rfl) ?_
  refine z_callVT (As := [.int (nI j)]) (rest := [.int 0, .ref oa]) (wc := ([(o9, .inr (6, [u0, u1, u2, u3, u4, u5, u6, .ref b9])), (b9, .inl (G.2 2, 2, .inl K))])) (wr := [(oa, .inl (G.2 5, 1, .inr (.inl og)))]) ⟨hx, hb, hml, hown, hts⟩ (c_x_restore2 l G hl0 o9 u0 u1 u2 u3 u4 u5 u6 b9 K j hj2 hk) (cwV 1 hts gL_restore_X6_restore rfl rfl rfl (by decide +kernel) ⟨(Nat.le_of_ble_eq_true rfl), (Nat.le_of_ble_eq_true rfl)⟩) 6 rfl rfl rfl rfl hl.1 rfl (Nat.le_of_ble_eq_true rfl) dL_restore_4 ⟨(Nat.le_of_ble_eq_true rfl), (Nat.le_of_ble_eq_true rfl)⟩ hK hE hTh hA hM List.perm_append_comm (fun qx9 ce H locs hM hce hcv hcl9 => ?_)
  refine vx_catch (own := RL) (name := "java/lang/IllegalStateException") (E := "java/lang/IllegalStateException") (ce := ce) hown [⟨0, 9, 12, 28⟩] ⟨0, 9, 15, 15⟩ [] (htb.trans rfl) (fun z h9 => by cases List.mem_singleton.mp h9; exact Or.inr ⟨by decide, "java/lang/IndexOutOfBoundsException", hts (.classLink RL 28 "java/lang/IndexOutOfBoundsException") (by decide +kernel), hN ("java/lang/IllegalStateException", "java/lang/IndexOutOfBoundsException") (List.mem_of_getElem? (i := 2) rfl)⟩) rfl (by decide) (hts (.classLink RL 15 "java/lang/IllegalStateException") (by decide +kernel)) (va_Nw.use rfl (hTh.2 "java/lang/IllegalStateException" (List.mem_of_getElem? (i := 1) rfl))) hce hcv hcl9 ?_
  refine lv_astore_n (lv' := [(3, .ref qx9), (0, .ref o9), (1, .int (nI j)), (2, .ref oa)]) hx hb dL_restore_15 rfl hl (by decide) rfl (fun ls hl => ?_)
  refine lv_iconst (v := 2) hx hb dL_restore_16 (by decide) ?_
  exact z_iret hx hb hr hlocks dL_restore_17 hM (Nat.le_of_ble_eq_true rfl) (Nat.le_of_ble_eq_true rfl) rfl
set_option maxHeartbeats 4000000 in
set_option maxRecDepth 100000 in
theorem w_x_restore0 (l : Launch) (G : zC) (o9 : Nat) (u0 u2 u3 u4 : Value) (mq mz mk mx : Nat) (ga : Nat → zGA) (mh : Nat → Nat → Int32) (mb : Nat → Nat → Nat → Int32) (s9 b9 : Nat) (sg : Nat → zGA) (sh : Nat → Nat → Int32) (sb : Nat → Nat → Nat → Int32) (K : Nat → Int32) (a : zGA) (h : Nat → Int32) (b : Nat → Nat → Int32) (j : Nat) (hj2 : j < 2) (hk : ¬ K j = 0) (hzh : zHz (sh j)) (oa : Nat) (og : Nat → Int64) : zMetN l G yL_restore wsL_restore rmL_restore [.ref o9, .int (nI j), .ref oa] ([(oa, .inl (G.2 5, 1, .inr (.inl og)))] ++ ([(o9, .inr (6, [u0, .ref a.1, u2, u3, u4, .ref mq, .ref s9, .ref b9])), (s9, .inl (G.2 4, 2, .inr (.inr (.inr (.inr (fun i => some (sg i).1)))))), (b9, .inl (G.2 2, 2, .inl K))] ++ ((mmW G mq mz ga mk mx mh mb) ++ ((fm 2 (gsF G sg sh sb)) ++ (gmW G a h b))))) (some (.int 0)) ([(oa, .inl (G.2 5, 1, .inr (.inl (vp_updL og 0 (Int32.toInt64 (sh j 0))))))] ++ ([(o9, .inr (6, [u0, .ref a.1, u2, u3, u4, .ref mq, .ref s9, .ref b9])), (s9, .inl (G.2 4, 2, .inr (.inr (.inr (.inr (fun i => some (sg i).1)))))), (b9, .inl (G.2 2, 2, .inl K))] ++ ((mmW G mq mz ga 0 mx mh mb) ++ ((fm 2 (gsF G sg sh sb)) ++ (gmW G a (sh j) (sb j)))))) := by
  refine zMetN_of (cc := cL_restore) (maxL := 4) (ret := (some .int)) (hh := [(0, 9, 12, 28), (0, 9, 15, 15)]) (by decide) rfl (Nat.le_of_ble_eq_true rfl) ?_
  intro p e s m below meth c A ls hx hb hr htb hml hown hts hK hA hE hN hTh hlocks hin hM hl
  have hown : s.vm.findClass RL = some m.cls := hown
  have hl : lv_has ls 4 [(0, .ref o9), (1, .int (nI j)), (2, .ref oa)] := hl
  refine lv_aload_n hx hb dL_restore_0 rfl (lv_at hl 2 rfl) ?_
  refine lv_iconst (v := 0) hx hb dL_restore_1 (by decide) ?_
  refine lv_aload_n hx hb dL_restore_2 rfl (lv_at hl 0 rfl) ?_
  refine lv_iload_n hx hb dL_restore_3 rfl (lv_at hl 1 rfl) ?_
  refine z_callV (As := [.int (nI j)]) (rest := [.int 0, .ref oa]) (wc := ([(o9, .inr (6, [u0, .ref a.1, u2, u3, u4, .ref mq, .ref s9, .ref b9])), (s9, .inl (G.2 4, 2, .inr (.inr (.inr (.inr (fun i => some (sg i).1)))))), (b9, .inl (G.2 2, 2, .inl K))] ++ ((mmW G mq mz ga mk mx mh mb) ++ ((fm 2 (gsF G sg sh sb)) ++ (gmW G a h b))))) (wr := [(oa, .inl (G.2 5, 1, .inr (.inl og)))]) (w1 := ([(o9, .inr (6, [u0, .ref a.1, u2, u3, u4, .ref mq, .ref s9, .ref b9])), (s9, .inl (G.2 4, 2, .inr (.inr (.inr (.inr (fun i => some (sg i).1)))))), (b9, .inl (G.2 2, 2, .inl K))] ++ ((mmW G mq mz ga 0 mx mh mb) ++ ((fm 2 (gsF G sg sh sb)) ++ (gmW G a (sh j) (sb j)))))) (ws' := [(oa, .inl (G.2 5, 1, .inr (.inl og)))] ++ ([(o9, .inr (6, [u0, .ref a.1, u2, u3, u4, .ref mq, .ref s9, .ref b9])), (s9, .inl (G.2 4, 2, .inr (.inr (.inr (.inr (fun i => some (sg i).1)))))), (b9, .inl (G.2 2, 2, .inl K))] ++ ((mmW G mq mz ga 0 mx mh mb) ++ ((fm 2 (gsF G sg sh sb)) ++ (gmW G a (sh j) (sb j)))))) ⟨hx, hb, hml, hown, hts⟩ (c_x_restore0 l G o9 u0 u2 u3 u4 mq mz mk mx ga mh mb s9 b9 sg sh sb K a h b j hj2 hk hzh) (cwV 1 hts gL_restore_X6_restore rfl rfl rfl (by decide +kernel) ⟨(Nat.le_of_ble_eq_true rfl), (Nat.le_of_ble_eq_true rfl)⟩) 6 rfl rfl rfl rfl hl.1 rfl (Nat.le_of_ble_eq_true rfl) dL_restore_4 ⟨(Nat.le_of_ble_eq_true rfl), (Nat.le_of_ble_eq_true rfl)⟩ hK hE hA hM List.perm_append_comm List.perm_append_comm (fun H locs hM hz => ?_)
  refine lv_i2l (v := Int32.toInt64 (sh j 0)) hx hb dL_restore_7 rfl ?_
  refine z_last (ws' := [(oa, .inl (G.2 5, 1, .inr (.inl (vp_updL og 0 (Int32.toInt64 (sh j 0))))))] ++ ([(o9, .inr (6, [u0, .ref a.1, u2, u3, u4, .ref mq, .ref s9, .ref b9])), (s9, .inl (G.2 4, 2, .inr (.inr (.inr (.inr (fun i => some (sg i).1)))))), (b9, .inl (G.2 2, 2, .inl K))] ++ ((mmW G mq mz ga 0 mx mh mb) ++ ((fm 2 (gsF G sg sh sb)) ++ (gmW G a (sh j) (sb j)))))) hx hb hK hM 0 rfl (vp_in_nI (n := 0) (by decide) (by decide)) dL_restore_8 rfl (fun H locs hM => ?_)
  refine lv_goto (tgt := 18) hx hb dL_restore_9 (by decide) ?_
  refine lv_iconst (v := 0) hx hb dL_restore_18 (by decide) ?_
  exact z_iret hx hb hr hlocks dL_restore_19 hM (Nat.le_of_ble_eq_true rfl) (Nat.le_of_ble_eq_true rfl) rfl
set_option maxHeartbeats 4000000 in
set_option maxRecDepth 100000 in
theorem w_x_goes1 (l : Launch) (G : zC) (hl0 : l.stackTraces = false) (o9 : Nat) (u0 u1 u2 u3 u4 u5 u6 u7 : Value) (k9 : Int32) (hc : k9 < 0 ∨ 2 < k9) (oa : Nat) (og : Nat → Int64) : zMetN l G yL_goesOn wsL_goesOn rmL_goesOn [.ref o9, .int k9, .ref oa] ([(oa, .inl (G.2 5, 1, .inr (.inl og)))] ++ ([(o9, .inr (6, [u0, u1, u2, u3, u4, u5, u6, u7]))])) (some (.int 1)) ([(oa, .inl (G.2 5, 1, .inr (.inl og)))] ++ ([(o9, .inr (6, [u0, u1, u2, u3, u4, u5, u6, u7]))])) := by
  refine zMetN_of (cc := cL_goesOn) (maxL := 4) (ret := (some .int)) (hh := [(0, 9, 12, 13)]) (by decide) rfl (Nat.le_of_ble_eq_true rfl) ?_
  intro p e s m below meth c A ls hx hb hr htb hml hown hts hK hA hE hN hTh hlocks hin hM hl
  have hown : s.vm.findClass RL = some m.cls := hown
  have hl : lv_has ls 4 [(0, .ref o9), (1, .int k9), (2, .ref oa)] := hl
  refine lv_aload_n hx hb dL_goesOn_0 rfl (lv_at hl 2 rfl) ?_
  refine lv_iconst (v := 0) hx hb dL_goesOn_1 (by decide) ?_
  refine lv_aload_n hx hb dL_goesOn_2 rfl (lv_at hl 0 rfl) ?_
  refine lv_iload_n hx hb dL_goesOn_3 rfl (lv_at hl 1 rfl) ?_
  refine z_callVT (As := [.int k9]) (rest := [.int 0, .ref oa]) (wc := ([(o9, .inr (6, [u0, u1, u2, u3, u4, u5, u6, u7]))])) (wr := [(oa, .inl (G.2 5, 1, .inr (.inl og)))]) ⟨hx, hb, hml, hown, hts⟩ (c_x_goes1 l G hl0 o9 u0 u1 u2 u3 u4 u5 u6 u7 k9 hc) (cwV 1 hts gL_goesOn_X6_goesOn rfl rfl rfl (by decide +kernel) ⟨(Nat.le_of_ble_eq_true rfl), (Nat.le_of_ble_eq_true rfl)⟩) 6 rfl rfl rfl rfl hl.1 rfl (Nat.le_of_ble_eq_true rfl) dL_goesOn_4 ⟨(Nat.le_of_ble_eq_true rfl), (Nat.le_of_ble_eq_true rfl)⟩ hK hE hTh hA hM List.perm_append_comm (fun qx9 ce H locs hM hce hcv hcl9 => ?_)
  refine vx_catch (own := RL) (name := "java/lang/IllegalArgumentException") (E := "java/lang/IllegalArgumentException") (ce := ce) hown [] ⟨0, 9, 12, 13⟩ [] (htb.trans rfl) (fun z h9 => by cases h9) rfl (by decide) (hts (.classLink RL 13 "java/lang/IllegalArgumentException") (by decide +kernel)) (va_Nw.use rfl (hTh.2 "java/lang/IllegalArgumentException" (List.mem_of_getElem? (i := 0) rfl))) hce hcv hcl9 ?_
  refine lv_astore_n (lv' := [(3, .ref qx9), (0, .ref o9), (1, .int k9), (2, .ref oa)]) hx hb dL_goesOn_12 rfl hl (by decide) rfl (fun ls hl => ?_)
  refine lv_iconst (v := 1) hx hb dL_goesOn_13 (by decide) ?_
  exact z_iret hx hb hr hlocks dL_goesOn_14 hM (Nat.le_of_ble_eq_true rfl) (Nat.le_of_ble_eq_true rfl) rfl
set_option maxHeartbeats 4000000 in
set_option maxRecDepth 100000 in
theorem w_x_goes2 (l : Launch) (G : zC) (o9 : Nat) (u0 u2 u3 u4 u5 u6 u7 : Value) (a : zGA) (h : Nat → Int32) (b : Nat → Nat → Int32) (k9 : Int32) (hc1 : ¬ k9 < 0) (hc2 : ¬ 2 < k9) (h0 : h 0 = 0) (oa : Nat) (og : Nat → Int64) : zMetN l G yL_goesOn wsL_goesOn rmL_goesOn [.ref o9, .int k9, .ref oa] ([(oa, .inl (G.2 5, 1, .inr (.inl og)))] ++ ([(o9, .inr (6, [u0, .ref a.1, u2, u3, u4, u5, u6, u7]))] ++ (gmW G a h b))) (some (.int 0)) ([(oa, .inl (G.2 5, 1, .inr (.inl (vp_updL og 0 (Int32.toInt64 (-1))))))] ++ ([(o9, .inr (6, [u0, .ref a.1, u2, u3, u4, u5, u6, u7]))] ++ (gmW G a h b))) := by
  refine zMetN_of (cc := cL_goesOn) (maxL := 4) (ret := (some .int)) (hh := [(0, 9, 12, 13)]) (by decide) rfl (Nat.le_of_ble_eq_true rfl) ?_
  intro p e s m below meth c A ls hx hb hr htb hml hown hts hK hA hE hN hTh hlocks hin hM hl
  have hown : s.vm.findClass RL = some m.cls := hown
  have hl : lv_has ls 4 [(0, .ref o9), (1, .int k9), (2, .ref oa)] := hl
  refine lv_aload_n hx hb dL_goesOn_0 rfl (lv_at hl 2 rfl) ?_
  refine lv_iconst (v := 0) hx hb dL_goesOn_1 (by decide) ?_
  refine lv_aload_n hx hb dL_goesOn_2 rfl (lv_at hl 0 rfl) ?_
  refine lv_iload_n hx hb dL_goesOn_3 rfl (lv_at hl 1 rfl) ?_
  refine z_callV (As := [.int k9]) (rest := [.int 0, .ref oa]) (wc := ([(o9, .inr (6, [u0, .ref a.1, u2, u3, u4, u5, u6, u7]))] ++ (gmW G a h b))) (wr := [(oa, .inl (G.2 5, 1, .inr (.inl og)))]) (w1 := ([(o9, .inr (6, [u0, .ref a.1, u2, u3, u4, u5, u6, u7]))] ++ (gmW G a h b))) (ws' := [(oa, .inl (G.2 5, 1, .inr (.inl og)))] ++ ([(o9, .inr (6, [u0, .ref a.1, u2, u3, u4, u5, u6, u7]))] ++ (gmW G a h b))) ⟨hx, hb, hml, hown, hts⟩ (c_x_goes2 l G o9 u0 u2 u3 u4 u5 u6 u7 a h b k9 hc1 hc2 h0) (cwV 1 hts gL_goesOn_X6_goesOn rfl rfl rfl (by decide +kernel) ⟨(Nat.le_of_ble_eq_true rfl), (Nat.le_of_ble_eq_true rfl)⟩) 6 rfl rfl rfl rfl hl.1 rfl (Nat.le_of_ble_eq_true rfl) dL_goesOn_4 ⟨(Nat.le_of_ble_eq_true rfl), (Nat.le_of_ble_eq_true rfl)⟩ hK hE hA hM List.perm_append_comm List.perm_append_comm (fun H locs hM hz => ?_)
  refine lv_i2l (v := Int32.toInt64 (-1)) hx hb dL_goesOn_7 rfl ?_
  refine z_last (ws' := [(oa, .inl (G.2 5, 1, .inr (.inl (vp_updL og 0 (Int32.toInt64 (-1))))))] ++ ([(o9, .inr (6, [u0, .ref a.1, u2, u3, u4, u5, u6, u7]))] ++ (gmW G a h b))) hx hb hK hM 0 rfl (vp_in_nI (n := 0) (by decide) (by decide)) dL_goesOn_8 rfl (fun H locs hM => ?_)
  refine lv_goto (tgt := 15) hx hb dL_goesOn_9 (by decide) ?_
  refine lv_iconst (v := 0) hx hb dL_goesOn_15 (by decide) ?_
  exact z_iret hx hb hr hlocks dL_goesOn_16 hM (Nat.le_of_ble_eq_true rfl) (Nat.le_of_ble_eq_true rfl) rfl
set_option maxHeartbeats 4000000 in
set_option maxRecDepth 100000 in
theorem w_x_goes0_0 (l : Launch) (G : zC) (o9 : Nat) (u0 u4 u5 u6 u7 : Value) (r9 : Nat) (sa : zBA) (u : zRU) (a : zGA) (h : Nat → Int32) (b : Nat → Nat → Int32) (ta : zGA) (th : Nat → Int32) (tb : Nat → Nat → Int32) (P t S e0 : Nat) (hG : zGs h b P t S e0) (K : Nat) (hK9 : e0 + K = 200) (hP0 : 0 < P) (oa : Nat) (og : Nat → Int64) : zMetN l G yL_goesOn wsL_goesOn rmL_goesOn [.ref o9, .int 0, .ref oa] ([(oa, .inl (G.2 5, 1, .inr (.inl og)))] ++ ([(o9, .inr (6, [u0, .ref a.1, .ref ta.1, .ref r9, u4, u5, u6, u7]))] ++ ((ruW G r9 sa u) ++ ((gmW G a h b) ++ (gmW G ta th tb))))) (some (.int 0)) ([(oa, .inl (G.2 5, 1, .inr (.inl (vp_updL og 0 (Int32.toInt64 ((zRunV K ((h, b), u)).1.1 5))))))] ++ ([(o9, .inr (6, [u0, .ref a.1, .ref ta.1, .ref r9, u4, u5, u6, u7]))] ++ ((ruW G r9 sa ((zRunV K ((h, b), u)).2)) ++ ((gmW G a h b) ++ (gmW G ta ((zRunV K ((h, b), u)).1.1) ((zRunV K ((h, b), u)).1.2)))))) := by
  refine zMetN_of (cc := cL_goesOn) (maxL := 4) (ret := (some .int)) (hh := [(0, 9, 12, 13)]) (by decide) rfl (Nat.le_of_ble_eq_true rfl) ?_
  intro p e s m below meth c A ls hx hb hr htb hml hown hts hK hA hE hN hTh hlocks hin hM hl
  have hown : s.vm.findClass RL = some m.cls := hown
  have hl : lv_has ls 4 [(0, .ref o9), (1, .int 0), (2, .ref oa)] := hl
  refine lv_aload_n hx hb dL_goesOn_0 rfl (lv_at hl 2 rfl) ?_
  refine lv_iconst (v := 0) hx hb dL_goesOn_1 (by decide) ?_
  refine lv_aload_n hx hb dL_goesOn_2 rfl (lv_at hl 0 rfl) ?_
  refine lv_iload_n hx hb dL_goesOn_3 rfl (lv_at hl 1 rfl) ?_
  refine z_callV (As := [.int 0]) (rest := [.int 0, .ref oa]) (wc := ([(o9, .inr (6, [u0, .ref a.1, .ref ta.1, .ref r9, u4, u5, u6, u7]))] ++ ((ruW G r9 sa u) ++ ((gmW G a h b) ++ (gmW G ta th tb))))) (wr := [(oa, .inl (G.2 5, 1, .inr (.inl og)))]) (w1 := ([(o9, .inr (6, [u0, .ref a.1, .ref ta.1, .ref r9, u4, u5, u6, u7]))] ++ ((ruW G r9 sa ((zRunV K ((h, b), u)).2)) ++ ((gmW G a h b) ++ (gmW G ta ((zRunV K ((h, b), u)).1.1) ((zRunV K ((h, b), u)).1.2)))))) (ws' := [(oa, .inl (G.2 5, 1, .inr (.inl og)))] ++ ([(o9, .inr (6, [u0, .ref a.1, .ref ta.1, .ref r9, u4, u5, u6, u7]))] ++ ((ruW G r9 sa ((zRunV K ((h, b), u)).2)) ++ ((gmW G a h b) ++ (gmW G ta ((zRunV K ((h, b), u)).1.1) ((zRunV K ((h, b), u)).1.2)))))) ⟨hx, hb, hml, hown, hts⟩ (c_x_goes0_0 l G o9 u0 u4 u5 u6 u7 r9 sa u a h b ta th tb P t S e0 hG K hK9 hP0) (cwV 1 hts gL_goesOn_X6_goesOn rfl rfl rfl (by decide +kernel) ⟨(Nat.le_of_ble_eq_true rfl), (Nat.le_of_ble_eq_true rfl)⟩) 6 rfl rfl rfl rfl hl.1 rfl (Nat.le_of_ble_eq_true rfl) dL_goesOn_4 ⟨(Nat.le_of_ble_eq_true rfl), (Nat.le_of_ble_eq_true rfl)⟩ hK hE hA hM List.perm_append_comm List.perm_append_comm (fun H locs hM hz => ?_)
  refine lv_i2l (v := Int32.toInt64 ((zRunV K ((h, b), u)).1.1 5)) hx hb dL_goesOn_7 rfl ?_
  refine z_last (ws' := [(oa, .inl (G.2 5, 1, .inr (.inl (vp_updL og 0 (Int32.toInt64 ((zRunV K ((h, b), u)).1.1 5))))))] ++ ([(o9, .inr (6, [u0, .ref a.1, .ref ta.1, .ref r9, u4, u5, u6, u7]))] ++ ((ruW G r9 sa ((zRunV K ((h, b), u)).2)) ++ ((gmW G a h b) ++ (gmW G ta ((zRunV K ((h, b), u)).1.1) ((zRunV K ((h, b), u)).1.2)))))) hx hb hK hM 0 rfl (vp_in_nI (n := 0) (by decide) (by decide)) dL_goesOn_8 rfl (fun H locs hM => ?_)
  refine lv_goto (tgt := 15) hx hb dL_goesOn_9 (by decide) ?_
  refine lv_iconst (v := 0) hx hb dL_goesOn_15 (by decide) ?_
  exact z_iret hx hb hr hlocks dL_goesOn_16 hM (Nat.le_of_ble_eq_true rfl) (Nat.le_of_ble_eq_true rfl) rfl
set_option maxHeartbeats 4000000 in
set_option maxRecDepth 100000 in
theorem w_x_goes0_1 (l : Launch) (G : zC) (o9 : Nat) (u0 u4 u5 u6 u7 : Value) (r9 : Nat) (sa : zBA) (u : zRU) (a : zGA) (h : Nat → Int32) (b : Nat → Nat → Int32) (ta : zGA) (th : Nat → Int32) (tb : Nat → Nat → Int32) (P t S e0 : Nat) (hG : zGs h b P t S e0) (K : Nat) (hK9 : e0 + K = 200) (hP0 : 0 < P) (oa : Nat) (og : Nat → Int64) : zMetN l G yL_goesOn wsL_goesOn rmL_goesOn [.ref o9, .int 1, .ref oa] ([(oa, .inl (G.2 5, 1, .inr (.inl og)))] ++ ([(o9, .inr (6, [u0, .ref a.1, .ref ta.1, .ref r9, u4, u5, u6, u7]))] ++ ((ruW G r9 sa u) ++ ((gmW G a h b) ++ (gmW G ta th tb))))) (some (.int 0)) ([(oa, .inl (G.2 5, 1, .inr (.inl (vp_updL og 0 (Int32.toInt64 ((zRunV K ((h, b), u)).1.1 3))))))] ++ ([(o9, .inr (6, [u0, .ref a.1, .ref ta.1, .ref r9, u4, u5, u6, u7]))] ++ ((ruW G r9 sa ((zRunV K ((h, b), u)).2)) ++ ((gmW G a h b) ++ (gmW G ta ((zRunV K ((h, b), u)).1.1) ((zRunV K ((h, b), u)).1.2)))))) := by
  refine zMetN_of (cc := cL_goesOn) (maxL := 4) (ret := (some .int)) (hh := [(0, 9, 12, 13)]) (by decide) rfl (Nat.le_of_ble_eq_true rfl) ?_
  intro p e s m below meth c A ls hx hb hr htb hml hown hts hK hA hE hN hTh hlocks hin hM hl
  have hown : s.vm.findClass RL = some m.cls := hown
  have hl : lv_has ls 4 [(0, .ref o9), (1, .int 1), (2, .ref oa)] := hl
  refine lv_aload_n hx hb dL_goesOn_0 rfl (lv_at hl 2 rfl) ?_
  refine lv_iconst (v := 0) hx hb dL_goesOn_1 (by decide) ?_
  refine lv_aload_n hx hb dL_goesOn_2 rfl (lv_at hl 0 rfl) ?_
  refine lv_iload_n hx hb dL_goesOn_3 rfl (lv_at hl 1 rfl) ?_
  refine z_callV (As := [.int 1]) (rest := [.int 0, .ref oa]) (wc := ([(o9, .inr (6, [u0, .ref a.1, .ref ta.1, .ref r9, u4, u5, u6, u7]))] ++ ((ruW G r9 sa u) ++ ((gmW G a h b) ++ (gmW G ta th tb))))) (wr := [(oa, .inl (G.2 5, 1, .inr (.inl og)))]) (w1 := ([(o9, .inr (6, [u0, .ref a.1, .ref ta.1, .ref r9, u4, u5, u6, u7]))] ++ ((ruW G r9 sa ((zRunV K ((h, b), u)).2)) ++ ((gmW G a h b) ++ (gmW G ta ((zRunV K ((h, b), u)).1.1) ((zRunV K ((h, b), u)).1.2)))))) (ws' := [(oa, .inl (G.2 5, 1, .inr (.inl og)))] ++ ([(o9, .inr (6, [u0, .ref a.1, .ref ta.1, .ref r9, u4, u5, u6, u7]))] ++ ((ruW G r9 sa ((zRunV K ((h, b), u)).2)) ++ ((gmW G a h b) ++ (gmW G ta ((zRunV K ((h, b), u)).1.1) ((zRunV K ((h, b), u)).1.2)))))) ⟨hx, hb, hml, hown, hts⟩ (c_x_goes0_1 l G o9 u0 u4 u5 u6 u7 r9 sa u a h b ta th tb P t S e0 hG K hK9 hP0) (cwV 1 hts gL_goesOn_X6_goesOn rfl rfl rfl (by decide +kernel) ⟨(Nat.le_of_ble_eq_true rfl), (Nat.le_of_ble_eq_true rfl)⟩) 6 rfl rfl rfl rfl hl.1 rfl (Nat.le_of_ble_eq_true rfl) dL_goesOn_4 ⟨(Nat.le_of_ble_eq_true rfl), (Nat.le_of_ble_eq_true rfl)⟩ hK hE hA hM List.perm_append_comm List.perm_append_comm (fun H locs hM hz => ?_)
  refine lv_i2l (v := Int32.toInt64 ((zRunV K ((h, b), u)).1.1 3)) hx hb dL_goesOn_7 rfl ?_
  refine z_last (ws' := [(oa, .inl (G.2 5, 1, .inr (.inl (vp_updL og 0 (Int32.toInt64 ((zRunV K ((h, b), u)).1.1 3))))))] ++ ([(o9, .inr (6, [u0, .ref a.1, .ref ta.1, .ref r9, u4, u5, u6, u7]))] ++ ((ruW G r9 sa ((zRunV K ((h, b), u)).2)) ++ ((gmW G a h b) ++ (gmW G ta ((zRunV K ((h, b), u)).1.1) ((zRunV K ((h, b), u)).1.2)))))) hx hb hK hM 0 rfl (vp_in_nI (n := 0) (by decide) (by decide)) dL_goesOn_8 rfl (fun H locs hM => ?_)
  refine lv_goto (tgt := 15) hx hb dL_goesOn_9 (by decide) ?_
  refine lv_iconst (v := 0) hx hb dL_goesOn_15 (by decide) ?_
  exact z_iret hx hb hr hlocks dL_goesOn_16 hM (Nat.le_of_ble_eq_true rfl) (Nat.le_of_ble_eq_true rfl) rfl
set_option maxHeartbeats 4000000 in
set_option maxRecDepth 100000 in
theorem w_x_goes0_2 (l : Launch) (G : zC) (o9 : Nat) (u0 u4 u5 u6 u7 : Value) (r9 : Nat) (sa : zBA) (u : zRU) (a : zGA) (h : Nat → Int32) (b : Nat → Nat → Int32) (ta : zGA) (th : Nat → Int32) (tb : Nat → Nat → Int32) (P t S e0 : Nat) (hG : zGs h b P t S e0) (K : Nat) (hK9 : e0 + K = 200) (hP0 : 0 < P) (oa : Nat) (og : Nat → Int64) : zMetN l G yL_goesOn wsL_goesOn rmL_goesOn [.ref o9, .int 2, .ref oa] ([(oa, .inl (G.2 5, 1, .inr (.inl og)))] ++ ([(o9, .inr (6, [u0, .ref a.1, .ref ta.1, .ref r9, u4, u5, u6, u7]))] ++ ((ruW G r9 sa u) ++ ((gmW G a h b) ++ (gmW G ta th tb))))) (some (.int 0)) ([(oa, .inl (G.2 5, 1, .inr (.inl (vp_updL og 0 (Int32.toInt64 (zTk (zRunV K ((h, b), u)).1.2 P 0 0))))))] ++ ([(o9, .inr (6, [u0, .ref a.1, .ref ta.1, .ref r9, u4, u5, u6, u7]))] ++ ((ruW G r9 sa ((zRunV K ((h, b), u)).2)) ++ ((gmW G a h b) ++ (gmW G ta ((zRunV K ((h, b), u)).1.1) ((zRunV K ((h, b), u)).1.2)))))) := by
  refine zMetN_of (cc := cL_goesOn) (maxL := 4) (ret := (some .int)) (hh := [(0, 9, 12, 13)]) (by decide) rfl (Nat.le_of_ble_eq_true rfl) ?_
  intro p e s m below meth c A ls hx hb hr htb hml hown hts hK hA hE hN hTh hlocks hin hM hl
  have hown : s.vm.findClass RL = some m.cls := hown
  have hl : lv_has ls 4 [(0, .ref o9), (1, .int 2), (2, .ref oa)] := hl
  refine lv_aload_n hx hb dL_goesOn_0 rfl (lv_at hl 2 rfl) ?_
  refine lv_iconst (v := 0) hx hb dL_goesOn_1 (by decide) ?_
  refine lv_aload_n hx hb dL_goesOn_2 rfl (lv_at hl 0 rfl) ?_
  refine lv_iload_n hx hb dL_goesOn_3 rfl (lv_at hl 1 rfl) ?_
  refine z_callV (As := [.int 2]) (rest := [.int 0, .ref oa]) (wc := ([(o9, .inr (6, [u0, .ref a.1, .ref ta.1, .ref r9, u4, u5, u6, u7]))] ++ ((ruW G r9 sa u) ++ ((gmW G a h b) ++ (gmW G ta th tb))))) (wr := [(oa, .inl (G.2 5, 1, .inr (.inl og)))]) (w1 := ([(o9, .inr (6, [u0, .ref a.1, .ref ta.1, .ref r9, u4, u5, u6, u7]))] ++ ((ruW G r9 sa ((zRunV K ((h, b), u)).2)) ++ ((gmW G a h b) ++ (gmW G ta ((zRunV K ((h, b), u)).1.1) ((zRunV K ((h, b), u)).1.2)))))) (ws' := [(oa, .inl (G.2 5, 1, .inr (.inl og)))] ++ ([(o9, .inr (6, [u0, .ref a.1, .ref ta.1, .ref r9, u4, u5, u6, u7]))] ++ ((ruW G r9 sa ((zRunV K ((h, b), u)).2)) ++ ((gmW G a h b) ++ (gmW G ta ((zRunV K ((h, b), u)).1.1) ((zRunV K ((h, b), u)).1.2)))))) ⟨hx, hb, hml, hown, hts⟩ (c_x_goes0_2 l G o9 u0 u4 u5 u6 u7 r9 sa u a h b ta th tb P t S e0 hG K hK9 hP0) (cwV 1 hts gL_goesOn_X6_goesOn rfl rfl rfl (by decide +kernel) ⟨(Nat.le_of_ble_eq_true rfl), (Nat.le_of_ble_eq_true rfl)⟩) 6 rfl rfl rfl rfl hl.1 rfl (Nat.le_of_ble_eq_true rfl) dL_goesOn_4 ⟨(Nat.le_of_ble_eq_true rfl), (Nat.le_of_ble_eq_true rfl)⟩ hK hE hA hM List.perm_append_comm List.perm_append_comm (fun H locs hM hz => ?_)
  refine lv_i2l (v := Int32.toInt64 (zTk (zRunV K ((h, b), u)).1.2 P 0 0)) hx hb dL_goesOn_7 rfl ?_
  refine z_last (ws' := [(oa, .inl (G.2 5, 1, .inr (.inl (vp_updL og 0 (Int32.toInt64 (zTk (zRunV K ((h, b), u)).1.2 P 0 0))))))] ++ ([(o9, .inr (6, [u0, .ref a.1, .ref ta.1, .ref r9, u4, u5, u6, u7]))] ++ ((ruW G r9 sa ((zRunV K ((h, b), u)).2)) ++ ((gmW G a h b) ++ (gmW G ta ((zRunV K ((h, b), u)).1.1) ((zRunV K ((h, b), u)).1.2)))))) hx hb hK hM 0 rfl (vp_in_nI (n := 0) (by decide) (by decide)) dL_goesOn_8 rfl (fun H locs hM => ?_)
  refine lv_goto (tgt := 15) hx hb dL_goesOn_9 (by decide) ?_
  refine lv_iconst (v := 0) hx hb dL_goesOn_15 (by decide) ?_
  exact z_iret hx hb hr hlocks dL_goesOn_16 hM (Nat.le_of_ble_eq_true rfl) (Nat.le_of_ble_eq_true rfl) rfl
set_option maxHeartbeats 4000000 in
set_option maxRecDepth 100000 in
theorem w_x_sim1 (l : Launch) (G : zC) (hl0 : l.stackTraces = false) (o9 : Nat) (u0 u1 u2 u3 u4 u5 u6 u7 : Value) (x9 : Int64) (k9 : Int32) (hc : k9 < 1 ∨ 80 < k9) (oa : Nat) (og : Nat → Int64) : zMetN l G yL_simulate wsL_simulate rmL_simulate [.ref o9, .long x9, .int k9, .ref oa] ([(oa, .inl (G.2 5, 1, .inr (.inl og)))] ++ ([(o9, .inr (6, [u0, u1, u2, u3, u4, u5, u6, u7]))])) (some (.int 1)) ([(oa, .inl (G.2 5, 1, .inr (.inl og)))] ++ ([(o9, .inr (6, [u0, u1, u2, u3, u4, u5, u6, u7]))])) := by
  refine zMetN_of (cc := cL_simulate) (maxL := 6) (ret := (some .int)) (hh := [(0, 11, 14, 13)]) (by decide) rfl (Nat.le_of_ble_eq_true rfl) ?_
  intro p e s m below meth c A ls hx hb hr htb hml hown hts hK hA hE hN hTh hlocks hin hM hl
  have hown : s.vm.findClass RL = some m.cls := hown
  have hl : lv_has ls 6 [(0, .ref o9), (1, .long x9), (3, .int k9), (4, .ref oa)] := hl
  refine lv_aload hx hb dL_simulate_0 (lv_at hl 3 rfl) ?_
  refine lv_iconst (v := 0) hx hb dL_simulate_2 (by decide) ?_
  refine lv_aload_n hx hb dL_simulate_3 rfl (lv_at hl 0 rfl) ?_
  refine lv_lload_n hx hb dL_simulate_4 rfl (lv_at hl 1 rfl) ?_
  refine lv_iload_n hx hb dL_simulate_5 rfl (lv_at hl 2 rfl) ?_
  refine z_callVT (As := [.long x9, .int k9]) (rest := [.int 0, .ref oa]) (wc := ([(o9, .inr (6, [u0, u1, u2, u3, u4, u5, u6, u7]))])) (wr := [(oa, .inl (G.2 5, 1, .inr (.inl og)))]) ⟨hx, hb, hml, hown, hts⟩ (c_x_sim1 l G hl0 o9 u0 u1 u2 u3 u4 u5 u6 u7 x9 k9 hc) (cwV 2 hts gL_simulate_X6_simulate rfl rfl rfl (by decide +kernel) ⟨(Nat.le_of_ble_eq_true rfl), (Nat.le_of_ble_eq_true rfl)⟩) 6 rfl rfl rfl rfl hl.1 rfl (Nat.le_of_ble_eq_true rfl) dL_simulate_6 ⟨(Nat.le_of_ble_eq_true rfl), (Nat.le_of_ble_eq_true rfl)⟩ hK hE hTh hA hM List.perm_append_comm (fun qx9 ce H locs hM hce hcv hcl9 => ?_)
  refine vx_catch (own := RL) (name := "java/lang/IllegalArgumentException") (E := "java/lang/IllegalArgumentException") (ce := ce) hown [] ⟨0, 11, 14, 13⟩ [] (htb.trans rfl) (fun z h9 => by cases h9) rfl (by decide) (hts (.classLink RL 13 "java/lang/IllegalArgumentException") (by decide +kernel)) (va_Nw.use rfl (hTh.2 "java/lang/IllegalArgumentException" (List.mem_of_getElem? (i := 0) rfl))) hce hcv hcl9 ?_
  refine lv_astore (lv' := [(5, .ref qx9), (0, .ref o9), (1, .long x9), (3, .int k9), (4, .ref oa)]) hx hb dL_simulate_14 hl (by decide) rfl (fun ls hl => ?_)
  refine lv_iconst (v := 1) hx hb dL_simulate_16 (by decide) ?_
  exact z_iret hx hb hr hlocks dL_simulate_17 hM (Nat.le_of_ble_eq_true rfl) (Nat.le_of_ble_eq_true rfl) rfl
set_option maxHeartbeats 4000000 in
set_option maxRecDepth 100000 in
theorem w_x_sim2 (l : Launch) (G : zC) (o9 : Nat) (u0 u2 u3 u4 u5 u6 u7 : Value) (a : zGA) (h : Nat → Int32) (b : Nat → Nat → Int32) (x9 : Int64) (N : Nat) (hN1 : 1 ≤ N) (hN80 : N ≤ 80) (h0 : h 0 = 0) (oa : Nat) (og : Nat → Int64) : zMetN l G yL_simulate wsL_simulate rmL_simulate [.ref o9, .long x9, .int (nI N), .ref oa] ([(oa, .inl (G.2 5, 1, .inr (.inl og)))] ++ ([(o9, .inr (6, [u0, .ref a.1, u2, u3, u4, u5, u6, u7]))] ++ (gmW G a h b))) (some (.int 0)) ([(oa, .inl (G.2 5, 1, .inr (.inl (vp_updL og 0 (Int32.toInt64 0)))))] ++ ([(o9, .inr (6, [u0, .ref a.1, u2, u3, u4, u5, u6, u7]))] ++ (gmW G a h b))) := by
  refine zMetN_of (cc := cL_simulate) (maxL := 6) (ret := (some .int)) (hh := [(0, 11, 14, 13)]) (by decide) rfl (Nat.le_of_ble_eq_true rfl) ?_
  intro p e s m below meth c A ls hx hb hr htb hml hown hts hK hA hE hN hTh hlocks hin hM hl
  have hown : s.vm.findClass RL = some m.cls := hown
  have hl : lv_has ls 6 [(0, .ref o9), (1, .long x9), (3, .int (nI N)), (4, .ref oa)] := hl
  refine lv_aload hx hb dL_simulate_0 (lv_at hl 3 rfl) ?_
  refine lv_iconst (v := 0) hx hb dL_simulate_2 (by decide) ?_
  refine lv_aload_n hx hb dL_simulate_3 rfl (lv_at hl 0 rfl) ?_
  refine lv_lload_n hx hb dL_simulate_4 rfl (lv_at hl 1 rfl) ?_
  refine lv_iload_n hx hb dL_simulate_5 rfl (lv_at hl 2 rfl) ?_
  refine z_callV (As := [.long x9, .int (nI N)]) (rest := [.int 0, .ref oa]) (wc := ([(o9, .inr (6, [u0, .ref a.1, u2, u3, u4, u5, u6, u7]))] ++ (gmW G a h b))) (wr := [(oa, .inl (G.2 5, 1, .inr (.inl og)))]) (w1 := ([(o9, .inr (6, [u0, .ref a.1, u2, u3, u4, u5, u6, u7]))] ++ (gmW G a h b))) (ws' := [(oa, .inl (G.2 5, 1, .inr (.inl og)))] ++ ([(o9, .inr (6, [u0, .ref a.1, u2, u3, u4, u5, u6, u7]))] ++ (gmW G a h b))) ⟨hx, hb, hml, hown, hts⟩ (c_x_sim2 l G o9 u0 u2 u3 u4 u5 u6 u7 a h b x9 N hN1 hN80 h0) (cwV 2 hts gL_simulate_X6_simulate rfl rfl rfl (by decide +kernel) ⟨(Nat.le_of_ble_eq_true rfl), (Nat.le_of_ble_eq_true rfl)⟩) 6 rfl rfl rfl rfl hl.1 rfl (Nat.le_of_ble_eq_true rfl) dL_simulate_6 ⟨(Nat.le_of_ble_eq_true rfl), (Nat.le_of_ble_eq_true rfl)⟩ hK hE hA hM List.perm_append_comm List.perm_append_comm (fun H locs hM hz => ?_)
  refine lv_i2l (v := Int32.toInt64 0) hx hb dL_simulate_9 rfl ?_
  refine z_last (ws' := [(oa, .inl (G.2 5, 1, .inr (.inl (vp_updL og 0 (Int32.toInt64 0)))))] ++ ([(o9, .inr (6, [u0, .ref a.1, u2, u3, u4, u5, u6, u7]))] ++ (gmW G a h b))) hx hb hK hM 0 rfl (vp_in_nI (n := 0) (by decide) (by decide)) dL_simulate_10 rfl (fun H locs hM => ?_)
  refine lv_goto (tgt := 18) hx hb dL_simulate_11 (by decide) ?_
  refine lv_iconst (v := 0) hx hb dL_simulate_18 (by decide) ?_
  exact z_iret hx hb hr hlocks dL_simulate_19 hM (Nat.le_of_ble_eq_true rfl) (Nat.le_of_ble_eq_true rfl) rfl
set_option maxHeartbeats 4000000 in
set_option maxRecDepth 100000 in
theorem w_x_sim0 (l : Launch) (G : zC) (o9 : Nat) (u0 u5 u6 u7 : Value) (d9 : Nat) (x0 : Int64) (r9 : Nat) (sa : zBA) (u : zRU) (a : zGA) (h : Nat → Int32) (b : Nat → Nat → Int32) (ta : zGA) (th : Nat → Int32) (tb : Nat → Nat → Int32) (P t S e0 : Nat) (hG : zGs h b P t S e0) (x9 : Int64) (N : Nat) (hN1 : 1 ≤ N) (hN80 : N ≤ 80) (hP0 : 0 < P) (oa : Nat) (og : Nat → Int64) : zMetN l G yL_simulate wsL_simulate rmL_simulate [.ref o9, .long x9, .int (nI N), .ref oa] ([(oa, .inl (G.2 5, 1, .inr (.inl og)))] ++ ([(o9, .inr (6, [u0, .ref a.1, .ref ta.1, .ref r9, .ref d9, u5, u6, u7])), (d9, .inr (1, [.long x0]))] ++ ((ruW G r9 sa u) ++ ((gmW G a h b) ++ (gmW G ta th tb))))) (some (.int 0)) ([(oa, .inl (G.2 5, 1, .inr (.inl (vp_updL og 0 (Int32.toInt64 (1000 * zTk (zSmV N x9 ((h, b), u)).2.1.2 P 0 0 + (zSmV N x9 ((h, b), u)).2.1.1 3))))))] ++ ([(o9, .inr (6, [u0, .ref a.1, .ref ta.1, .ref r9, .ref d9, u5, u6, u7])), (d9, .inr (1, [.long ((zSmV N x9 ((h, b), u)).1)]))] ++ ((ruW G r9 sa ((zSmV N x9 ((h, b), u)).2.2)) ++ ((gmW G a h b) ++ (gmW G ta ((zSmV N x9 ((h, b), u)).2.1.1) ((zSmV N x9 ((h, b), u)).2.1.2)))))) := by
  refine zMetN_of (cc := cL_simulate) (maxL := 6) (ret := (some .int)) (hh := [(0, 11, 14, 13)]) (by decide) rfl (Nat.le_of_ble_eq_true rfl) ?_
  intro p e s m below meth c A ls hx hb hr htb hml hown hts hK hA hE hN hTh hlocks hin hM hl
  have hown : s.vm.findClass RL = some m.cls := hown
  have hl : lv_has ls 6 [(0, .ref o9), (1, .long x9), (3, .int (nI N)), (4, .ref oa)] := hl
  refine lv_aload hx hb dL_simulate_0 (lv_at hl 3 rfl) ?_
  refine lv_iconst (v := 0) hx hb dL_simulate_2 (by decide) ?_
  refine lv_aload_n hx hb dL_simulate_3 rfl (lv_at hl 0 rfl) ?_
  refine lv_lload_n hx hb dL_simulate_4 rfl (lv_at hl 1 rfl) ?_
  refine lv_iload_n hx hb dL_simulate_5 rfl (lv_at hl 2 rfl) ?_
  refine z_callV (As := [.long x9, .int (nI N)]) (rest := [.int 0, .ref oa]) (wc := ([(o9, .inr (6, [u0, .ref a.1, .ref ta.1, .ref r9, .ref d9, u5, u6, u7])), (d9, .inr (1, [.long x0]))] ++ ((ruW G r9 sa u) ++ ((gmW G a h b) ++ (gmW G ta th tb))))) (wr := [(oa, .inl (G.2 5, 1, .inr (.inl og)))]) (w1 := ([(o9, .inr (6, [u0, .ref a.1, .ref ta.1, .ref r9, .ref d9, u5, u6, u7])), (d9, .inr (1, [.long ((zSmV N x9 ((h, b), u)).1)]))] ++ ((ruW G r9 sa ((zSmV N x9 ((h, b), u)).2.2)) ++ ((gmW G a h b) ++ (gmW G ta ((zSmV N x9 ((h, b), u)).2.1.1) ((zSmV N x9 ((h, b), u)).2.1.2)))))) (ws' := [(oa, .inl (G.2 5, 1, .inr (.inl og)))] ++ ([(o9, .inr (6, [u0, .ref a.1, .ref ta.1, .ref r9, .ref d9, u5, u6, u7])), (d9, .inr (1, [.long ((zSmV N x9 ((h, b), u)).1)]))] ++ ((ruW G r9 sa ((zSmV N x9 ((h, b), u)).2.2)) ++ ((gmW G a h b) ++ (gmW G ta ((zSmV N x9 ((h, b), u)).2.1.1) ((zSmV N x9 ((h, b), u)).2.1.2)))))) ⟨hx, hb, hml, hown, hts⟩ (c_x_sim0 l G o9 u0 u5 u6 u7 d9 x0 r9 sa u a h b ta th tb P t S e0 hG x9 N hN1 hN80 hP0) (cwV 2 hts gL_simulate_X6_simulate rfl rfl rfl (by decide +kernel) ⟨(Nat.le_of_ble_eq_true rfl), (Nat.le_of_ble_eq_true rfl)⟩) 6 rfl rfl rfl rfl hl.1 rfl (Nat.le_of_ble_eq_true rfl) dL_simulate_6 ⟨(Nat.le_of_ble_eq_true rfl), (Nat.le_of_ble_eq_true rfl)⟩ hK hE hA hM List.perm_append_comm List.perm_append_comm (fun H locs hM hz => ?_)
  refine lv_i2l (v := Int32.toInt64 (1000 * zTk (zSmV N x9 ((h, b), u)).2.1.2 P 0 0 + (zSmV N x9 ((h, b), u)).2.1.1 3)) hx hb dL_simulate_9 rfl ?_
  refine z_last (ws' := [(oa, .inl (G.2 5, 1, .inr (.inl (vp_updL og 0 (Int32.toInt64 (1000 * zTk (zSmV N x9 ((h, b), u)).2.1.2 P 0 0 + (zSmV N x9 ((h, b), u)).2.1.1 3))))))] ++ ([(o9, .inr (6, [u0, .ref a.1, .ref ta.1, .ref r9, .ref d9, u5, u6, u7])), (d9, .inr (1, [.long ((zSmV N x9 ((h, b), u)).1)]))] ++ ((ruW G r9 sa ((zSmV N x9 ((h, b), u)).2.2)) ++ ((gmW G a h b) ++ (gmW G ta ((zSmV N x9 ((h, b), u)).2.1.1) ((zSmV N x9 ((h, b), u)).2.1.2)))))) hx hb hK hM 0 rfl (vp_in_nI (n := 0) (by decide) (by decide)) dL_simulate_10 rfl (fun H locs hM => ?_)
  refine lv_goto (tgt := 18) hx hb dL_simulate_11 (by decide) ?_
  refine lv_iconst (v := 0) hx hb dL_simulate_18 (by decide) ?_
  exact z_iret hx hb hr hlocks dL_simulate_19 hM (Nat.le_of_ble_eq_true rfl) (Nat.le_of_ble_eq_true rfl) rfl
set_option maxHeartbeats 4000000 in
set_option maxRecDepth 100000 in
theorem w_x_run1 (l : Launch) (G : zC) (hl0 : l.stackTraces = false) (o9 : Nat) (u0 u1 u2 u3 u4 u5 u6 u7 : Value) (k9 : Int32) (x9 : Int64) (hc : k9 < 1 ∨ 3 < k9) (oa : Nat) (og : Nat → Int64) : zMetN l G yL_runScript wsL_runScript rmL_runScript [.ref o9, .int k9, .long x9, .ref oa] ([(oa, .inl (G.2 5, 1, .inr (.inl og)))] ++ ([(o9, .inr (6, [u0, u1, u2, u3, u4, u5, u6, u7]))])) (some (.int 1)) ([(oa, .inl (G.2 5, 1, .inr (.inl og)))] ++ ([(o9, .inr (6, [u0, u1, u2, u3, u4, u5, u6, u7]))])) := by
  refine zMetN_of (cc := cL_runScript) (maxL := 6) (ret := (some .int)) (hh := [(0, 11, 14, 13)]) (by decide) rfl (Nat.le_of_ble_eq_true rfl) ?_
  intro p e s m below meth c A ls hx hb hr htb hml hown hts hK hA hE hN hTh hlocks hin hM hl
  have hown : s.vm.findClass RL = some m.cls := hown
  have hl : lv_has ls 6 [(0, .ref o9), (1, .int k9), (2, .long x9), (4, .ref oa)] := hl
  refine lv_aload hx hb dL_runScript_0 (lv_at hl 3 rfl) ?_
  refine lv_iconst (v := 0) hx hb dL_runScript_2 (by decide) ?_
  refine lv_aload_n hx hb dL_runScript_3 rfl (lv_at hl 0 rfl) ?_
  refine lv_iload_n hx hb dL_runScript_4 rfl (lv_at hl 1 rfl) ?_
  refine lv_lload_n hx hb dL_runScript_5 rfl (lv_at hl 2 rfl) ?_
  refine z_callVT (As := [.int k9, .long x9]) (rest := [.int 0, .ref oa]) (wc := ([(o9, .inr (6, [u0, u1, u2, u3, u4, u5, u6, u7]))])) (wr := [(oa, .inl (G.2 5, 1, .inr (.inl og)))]) ⟨hx, hb, hml, hown, hts⟩ (c_x_run1 l G hl0 o9 u0 u1 u2 u3 u4 u5 u6 u7 k9 x9 hc) (cwV 2 hts gL_runScript_X6_runScript rfl rfl rfl (by decide +kernel) ⟨(Nat.le_of_ble_eq_true rfl), (Nat.le_of_ble_eq_true rfl)⟩) 6 rfl rfl rfl rfl hl.1 rfl (Nat.le_of_ble_eq_true rfl) dL_runScript_6 ⟨(Nat.le_of_ble_eq_true rfl), (Nat.le_of_ble_eq_true rfl)⟩ hK hE hTh hA hM List.perm_append_comm (fun qx9 ce H locs hM hce hcv hcl9 => ?_)
  refine vx_catch (own := RL) (name := "java/lang/IllegalArgumentException") (E := "java/lang/IllegalArgumentException") (ce := ce) hown [] ⟨0, 11, 14, 13⟩ [] (htb.trans rfl) (fun z h9 => by cases h9) rfl (by decide) (hts (.classLink RL 13 "java/lang/IllegalArgumentException") (by decide +kernel)) (va_Nw.use rfl (hTh.2 "java/lang/IllegalArgumentException" (List.mem_of_getElem? (i := 0) rfl))) hce hcv hcl9 ?_
  refine lv_astore (lv' := [(5, .ref qx9), (0, .ref o9), (1, .int k9), (2, .long x9), (4, .ref oa)]) hx hb dL_runScript_14 hl (by decide) rfl (fun ls hl => ?_)
  refine lv_iconst (v := 1) hx hb dL_runScript_16 (by decide) ?_
  exact z_iret hx hb hr hlocks dL_runScript_17 hM (Nat.le_of_ble_eq_true rfl) (Nat.le_of_ble_eq_true rfl) rfl
set_option maxHeartbeats 4000000 in
set_option maxRecDepth 100000 in
theorem w_x_run2 (l : Launch) (G : zC) (hl0 : l.stackTraces = false) (o9 : Nat) (u0 u1 u2 u3 u4 u5 u6 u7 : Value) (N : Nat) (hN1 : 1 ≤ N) (hN3 : N ≤ 3) (x9 : Int64) (hc : x9 < 0 ∨ ¬ zWl x9 N = 0) (oa : Nat) (og : Nat → Int64) : zMetN l G yL_runScript wsL_runScript rmL_runScript [.ref o9, .int (nI N), .long x9, .ref oa] ([(oa, .inl (G.2 5, 1, .inr (.inl og)))] ++ ([(o9, .inr (6, [u0, u1, u2, u3, u4, u5, u6, u7]))])) (some (.int 1)) ([(oa, .inl (G.2 5, 1, .inr (.inl og)))] ++ ([(o9, .inr (6, [u0, u1, u2, u3, u4, u5, u6, u7]))])) := by
  refine zMetN_of (cc := cL_runScript) (maxL := 6) (ret := (some .int)) (hh := [(0, 11, 14, 13)]) (by decide) rfl (Nat.le_of_ble_eq_true rfl) ?_
  intro p e s m below meth c A ls hx hb hr htb hml hown hts hK hA hE hN hTh hlocks hin hM hl
  have hown : s.vm.findClass RL = some m.cls := hown
  have hl : lv_has ls 6 [(0, .ref o9), (1, .int (nI N)), (2, .long x9), (4, .ref oa)] := hl
  refine lv_aload hx hb dL_runScript_0 (lv_at hl 3 rfl) ?_
  refine lv_iconst (v := 0) hx hb dL_runScript_2 (by decide) ?_
  refine lv_aload_n hx hb dL_runScript_3 rfl (lv_at hl 0 rfl) ?_
  refine lv_iload_n hx hb dL_runScript_4 rfl (lv_at hl 1 rfl) ?_
  refine lv_lload_n hx hb dL_runScript_5 rfl (lv_at hl 2 rfl) ?_
  refine z_callVT (As := [.int (nI N), .long x9]) (rest := [.int 0, .ref oa]) (wc := ([(o9, .inr (6, [u0, u1, u2, u3, u4, u5, u6, u7]))])) (wr := [(oa, .inl (G.2 5, 1, .inr (.inl og)))]) ⟨hx, hb, hml, hown, hts⟩ (c_x_run2 l G hl0 o9 u0 u1 u2 u3 u4 u5 u6 u7 N hN1 hN3 x9 hc) (cwV 2 hts gL_runScript_X6_runScript rfl rfl rfl (by decide +kernel) ⟨(Nat.le_of_ble_eq_true rfl), (Nat.le_of_ble_eq_true rfl)⟩) 6 rfl rfl rfl rfl hl.1 rfl (Nat.le_of_ble_eq_true rfl) dL_runScript_6 ⟨(Nat.le_of_ble_eq_true rfl), (Nat.le_of_ble_eq_true rfl)⟩ hK hE hTh hA hM List.perm_append_comm (fun qx9 ce H locs hM hce hcv hcl9 => ?_)
  refine vx_catch (own := RL) (name := "java/lang/IllegalArgumentException") (E := "java/lang/IllegalArgumentException") (ce := ce) hown [] ⟨0, 11, 14, 13⟩ [] (htb.trans rfl) (fun z h9 => by cases h9) rfl (by decide) (hts (.classLink RL 13 "java/lang/IllegalArgumentException") (by decide +kernel)) (va_Nw.use rfl (hTh.2 "java/lang/IllegalArgumentException" (List.mem_of_getElem? (i := 0) rfl))) hce hcv hcl9 ?_
  refine lv_astore (lv' := [(5, .ref qx9), (0, .ref o9), (1, .int (nI N)), (2, .long x9), (4, .ref oa)]) hx hb dL_runScript_14 hl (by decide) rfl (fun ls hl => ?_)
  refine lv_iconst (v := 1) hx hb dL_runScript_16 (by decide) ?_
  exact z_iret hx hb hr hlocks dL_runScript_17 hM (Nat.le_of_ble_eq_true rfl) (Nat.le_of_ble_eq_true rfl) rfl
set_option maxHeartbeats 4000000 in
set_option maxRecDepth 100000 in
theorem w_x_run0 (l : Launch) (G : zC) (o9 : Nat) (u0 u4 u5 u6 u7 : Value) (r9 : Nat) (sa : zBA) (u : zRU) (a : zGA) (h : Nat → Int32) (b : Nat → Nat → Int32) (ta : zGA) (th : Nat → Int32) (tb : Nat → Nat → Int32) (P t S e0 : Nat) (hG : zGs h b P t S e0) (N : Nat) (hN1 : 1 ≤ N) (hN3 : N ≤ 3) (x9 : Int64) (hc0 : ¬ x9 < 0) (hc1 : zWl x9 N = 0) (hx0 : 0 ≤ x9.toInt) (oa : Nat) (og : Nat → Int64) : zMetN l G yL_runScript wsL_runScript rmL_runScript [.ref o9, .int (nI N), .long x9, .ref oa] ([(oa, .inl (G.2 5, 1, .inr (.inl og)))] ++ ([(o9, .inr (6, [u0, .ref a.1, .ref ta.1, .ref r9, u4, u5, u6, u7]))] ++ ((ruW G r9 sa u) ++ ((gmW G a h b) ++ (gmW G ta th tb))))) (some (.int 0)) ([(oa, .inl (G.2 5, 1, .inr (.inl (vp_updL og 0 (Int32.toInt64 (zScr x9 N N 0 (h, b)))))))] ++ ([(o9, .inr (6, [u0, .ref a.1, .ref ta.1, .ref r9, u4, u5, u6, u7]))] ++ ((ruW G r9 sa ((zScrV x9 N N 0 ((h, b), u)).2)) ++ ((gmW G a h b) ++ (gmW G ta ((zScrV x9 N N 0 ((h, b), u)).1.1) ((zScrV x9 N N 0 ((h, b), u)).1.2)))))) := by
  refine zMetN_of (cc := cL_runScript) (maxL := 6) (ret := (some .int)) (hh := [(0, 11, 14, 13)]) (by decide) rfl (Nat.le_of_ble_eq_true rfl) ?_
  intro p e s m below meth c A ls hx hb hr htb hml hown hts hK hA hE hN hTh hlocks hin hM hl
  have hown : s.vm.findClass RL = some m.cls := hown
  have hl : lv_has ls 6 [(0, .ref o9), (1, .int (nI N)), (2, .long x9), (4, .ref oa)] := hl
  refine lv_aload hx hb dL_runScript_0 (lv_at hl 3 rfl) ?_
  refine lv_iconst (v := 0) hx hb dL_runScript_2 (by decide) ?_
  refine lv_aload_n hx hb dL_runScript_3 rfl (lv_at hl 0 rfl) ?_
  refine lv_iload_n hx hb dL_runScript_4 rfl (lv_at hl 1 rfl) ?_
  refine lv_lload_n hx hb dL_runScript_5 rfl (lv_at hl 2 rfl) ?_
  refine z_callV (As := [.int (nI N), .long x9]) (rest := [.int 0, .ref oa]) (wc := ([(o9, .inr (6, [u0, .ref a.1, .ref ta.1, .ref r9, u4, u5, u6, u7]))] ++ ((ruW G r9 sa u) ++ ((gmW G a h b) ++ (gmW G ta th tb))))) (wr := [(oa, .inl (G.2 5, 1, .inr (.inl og)))]) (w1 := ([(o9, .inr (6, [u0, .ref a.1, .ref ta.1, .ref r9, u4, u5, u6, u7]))] ++ ((ruW G r9 sa ((zScrV x9 N N 0 ((h, b), u)).2)) ++ ((gmW G a h b) ++ (gmW G ta ((zScrV x9 N N 0 ((h, b), u)).1.1) ((zScrV x9 N N 0 ((h, b), u)).1.2)))))) (ws' := [(oa, .inl (G.2 5, 1, .inr (.inl og)))] ++ ([(o9, .inr (6, [u0, .ref a.1, .ref ta.1, .ref r9, u4, u5, u6, u7]))] ++ ((ruW G r9 sa ((zScrV x9 N N 0 ((h, b), u)).2)) ++ ((gmW G a h b) ++ (gmW G ta ((zScrV x9 N N 0 ((h, b), u)).1.1) ((zScrV x9 N N 0 ((h, b), u)).1.2)))))) ⟨hx, hb, hml, hown, hts⟩ (c_x_run0 l G o9 u0 u4 u5 u6 u7 r9 sa u a h b ta th tb P t S e0 hG N hN1 hN3 x9 hc0 hc1 hx0) (cwV 2 hts gL_runScript_X6_runScript rfl rfl rfl (by decide +kernel) ⟨(Nat.le_of_ble_eq_true rfl), (Nat.le_of_ble_eq_true rfl)⟩) 6 rfl rfl rfl rfl hl.1 rfl (Nat.le_of_ble_eq_true rfl) dL_runScript_6 ⟨(Nat.le_of_ble_eq_true rfl), (Nat.le_of_ble_eq_true rfl)⟩ hK hE hA hM List.perm_append_comm List.perm_append_comm (fun H locs hM hz => ?_)
  refine lv_i2l (v := Int32.toInt64 (zScr x9 N N 0 (h, b))) hx hb dL_runScript_9 rfl ?_
  refine z_last (ws' := [(oa, .inl (G.2 5, 1, .inr (.inl (vp_updL og 0 (Int32.toInt64 (zScr x9 N N 0 (h, b)))))))] ++ ([(o9, .inr (6, [u0, .ref a.1, .ref ta.1, .ref r9, u4, u5, u6, u7]))] ++ ((ruW G r9 sa ((zScrV x9 N N 0 ((h, b), u)).2)) ++ ((gmW G a h b) ++ (gmW G ta ((zScrV x9 N N 0 ((h, b), u)).1.1) ((zScrV x9 N N 0 ((h, b), u)).1.2)))))) hx hb hK hM 0 rfl (vp_in_nI (n := 0) (by decide) (by decide)) dL_runScript_10 rfl (fun H locs hM => ?_)
  refine lv_goto (tgt := 18) hx hb dL_runScript_11 (by decide) ?_
  refine lv_iconst (v := 0) hx hb dL_runScript_18 (by decide) ?_
  exact z_iret hx hb hr hlocks dL_runScript_19 hM (Nat.le_of_ble_eq_true rfl) (Nat.le_of_ble_eq_true rfl) rfl
set_option maxHeartbeats 4000000 in
set_option maxRecDepth 100000 in
theorem w_x_load1 (l : Launch) (G : zC) (hl0 : l.stackTraces = false) (o9 : Nat) (u1 u2 u3 u4 u5 u6 u7 : Value) (t9 z9 n : Nat) (v : Nat → Int32) (hu : zTu v) (hn : n ≤ 120) (hc : ¬ zWr v n n 0 0 = -1) (oa : Nat) (og : Nat → Int64) : zMetN l G yL_load wsL_load rmL_load [.ref o9, .ref oa] ([(oa, .inl (G.2 5, 1, .inr (.inl og)))] ++ ([(o9, .inr (6, [.ref t9, u1, u2, u3, u4, u5, u6, u7])), (t9, .inr (5, [.ref z9, .int (nI n)])), (z9, .inl (G.2 0, 120, .inl v))])) (some (.int 1)) ([(oa, .inl (G.2 5, 1, .inr (.inl og)))] ++ ([(o9, .inr (6, [.ref t9, u1, u2, u3, u4, u5, u6, u7])), (t9, .inr (5, [.ref z9, .int (nI n)])), (z9, .inl (G.2 0, 120, .inl v))])) := by
  refine zMetN_of (cc := cL_load) (maxL := 3) (ret := (some .int)) (hh := [(0, 8, 11, 15)]) (by decide) rfl (Nat.le_of_ble_eq_true rfl) ?_
  intro p e s m below meth c A ls hx hb hr htb hml hown hts hK hA hE hN hTh hlocks hin hM hl
  have hown : s.vm.findClass RL = some m.cls := hown
  have hl : lv_has ls 3 [(0, .ref o9), (1, .ref oa)] := hl
  refine lv_aload_n hx hb dL_load_0 rfl (lv_at hl 1 rfl) ?_
  refine lv_iconst (v := 0) hx hb dL_load_1 (by decide) ?_
  refine lv_aload_n hx hb dL_load_2 rfl (lv_at hl 0 rfl) ?_
  refine z_callVT (As := []) (rest := [.int 0, .ref oa]) (wc := ([(o9, .inr (6, [.ref t9, u1, u2, u3, u4, u5, u6, u7])), (t9, .inr (5, [.ref z9, .int (nI n)])), (z9, .inl (G.2 0, 120, .inl v))])) (wr := [(oa, .inl (G.2 5, 1, .inr (.inl og)))]) ⟨hx, hb, hml, hown, hts⟩ (c_x_load1 l G hl0 o9 u1 u2 u3 u4 u5 u6 u7 t9 z9 n v hu hn hc) (cwV 0 hts gL_load_X6_load rfl rfl rfl (by decide +kernel) ⟨(Nat.le_of_ble_eq_true rfl), (Nat.le_of_ble_eq_true rfl)⟩) 6 rfl rfl rfl rfl hl.1 rfl (Nat.le_of_ble_eq_true rfl) dL_load_3 ⟨(Nat.le_of_ble_eq_true rfl), (Nat.le_of_ble_eq_true rfl)⟩ hK hE hTh hA hM List.perm_append_comm (fun qx9 ce H locs hM hce hcv hcl9 => ?_)
  refine vx_catch (own := RL) (name := "java/lang/IllegalStateException") (E := "java/lang/IllegalStateException") (ce := ce) hown [] ⟨0, 8, 11, 15⟩ [] (htb.trans rfl) (fun z h9 => by cases h9) rfl (by decide) (hts (.classLink RL 15 "java/lang/IllegalStateException") (by decide +kernel)) (va_Nw.use rfl (hTh.2 "java/lang/IllegalStateException" (List.mem_of_getElem? (i := 1) rfl))) hce hcv hcl9 ?_
  refine lv_astore_n (lv' := [(2, .ref qx9), (0, .ref o9), (1, .ref oa)]) hx hb dL_load_11 rfl hl (by decide) rfl (fun ls hl => ?_)
  refine lv_iconst (v := 1) hx hb dL_load_12 (by decide) ?_
  exact z_iret hx hb hr hlocks dL_load_13 hM (Nat.le_of_ble_eq_true rfl) (Nat.le_of_ble_eq_true rfl) rfl
set_option maxHeartbeats 4000000 in
set_option maxRecDepth 100000 in
theorem w_x_load0 (l : Launch) (G : zC) (o9 : Nat) (u2 u3 u6 : Value) (t9 z9 n : Nat) (v : Nat → Int32) (b9 : Nat) (K : Nat → Int32) (d9 : Nat) (x0 : Int64) (mq mz mk mx : Nat) (ga : Nat → zGA) (mh : Nat → Nat → Int32) (mb : Nat → Nat → Nat → Int32) (a : zGA) (h : Nat → Int32) (b : Nat → Nat → Int32) (hu : zTu v) (hn : n ≤ 120) (hc : zWr v n n 0 0 = -1) (oa : Nat) (og : Nat → Int64) : zMetN l G yL_load wsL_load rmL_load [.ref o9, .ref oa] ([(oa, .inl (G.2 5, 1, .inr (.inl og)))] ++ ([(o9, .inr (6, [.ref t9, .ref a.1, u2, u3, .ref d9, .ref mq, u6, .ref b9])), (t9, .inr (5, [.ref z9, .int (nI n)])), (z9, .inl (G.2 0, 120, .inl v)), (b9, .inl (G.2 2, 2, .inl K)), (d9, .inr (1, [.long x0]))] ++ ((mmW G mq mz ga mk mx mh mb) ++ (gmW G a h b)))) (some (.int 0)) ([(oa, .inl (G.2 5, 1, .inr (.inl (vp_updL og 0 (Int32.toInt64 (nI (zIt (zTxS v n) n 0 ((zGdH zClH (zDn v n 1), (zGd (zDn v n 1) (zTs v n) b).2), 0)).2))))))] ++ ([(o9, .inr (6, [.ref t9, .ref a.1, u2, u3, .ref d9, .ref mq, u6, .ref b9])), (t9, .inr (5, [.ref z9, .int (nI n)])), (z9, .inl (G.2 0, 120, .inl v)), (b9, .inl (G.2 2, 2, .inl (upd (upd K 0 0) 1 0))), (d9, .inr (1, [.long ((zGd (zDn v n 1) (zTs v n) b).1)]))] ++ ((mmW G mq mz ga 0 mx mh mb) ++ (gmW G a ((zIt (zTxS v n) n 0 ((zGdH zClH (zDn v n 1), (zGd (zDn v n 1) (zTs v n) b).2), 0)).1.1) ((zIt (zTxS v n) n 0 ((zGdH zClH (zDn v n 1), (zGd (zDn v n 1) (zTs v n) b).2), 0)).1.2))))) := by
  refine zMetN_of (cc := cL_load) (maxL := 3) (ret := (some .int)) (hh := [(0, 8, 11, 15)]) (by decide) rfl (Nat.le_of_ble_eq_true rfl) ?_
  intro p e s m below meth c A ls hx hb hr htb hml hown hts hK hA hE hN hTh hlocks hin hM hl
  have hown : s.vm.findClass RL = some m.cls := hown
  have hl : lv_has ls 3 [(0, .ref o9), (1, .ref oa)] := hl
  refine lv_aload_n hx hb dL_load_0 rfl (lv_at hl 1 rfl) ?_
  refine lv_iconst (v := 0) hx hb dL_load_1 (by decide) ?_
  refine lv_aload_n hx hb dL_load_2 rfl (lv_at hl 0 rfl) ?_
  refine z_callV (As := []) (rest := [.int 0, .ref oa]) (wc := ([(o9, .inr (6, [.ref t9, .ref a.1, u2, u3, .ref d9, .ref mq, u6, .ref b9])), (t9, .inr (5, [.ref z9, .int (nI n)])), (z9, .inl (G.2 0, 120, .inl v)), (b9, .inl (G.2 2, 2, .inl K)), (d9, .inr (1, [.long x0]))] ++ ((mmW G mq mz ga mk mx mh mb) ++ (gmW G a h b)))) (wr := [(oa, .inl (G.2 5, 1, .inr (.inl og)))]) (w1 := ([(o9, .inr (6, [.ref t9, .ref a.1, u2, u3, .ref d9, .ref mq, u6, .ref b9])), (t9, .inr (5, [.ref z9, .int (nI n)])), (z9, .inl (G.2 0, 120, .inl v)), (b9, .inl (G.2 2, 2, .inl (upd (upd K 0 0) 1 0))), (d9, .inr (1, [.long ((zGd (zDn v n 1) (zTs v n) b).1)]))] ++ ((mmW G mq mz ga 0 mx mh mb) ++ (gmW G a ((zIt (zTxS v n) n 0 ((zGdH zClH (zDn v n 1), (zGd (zDn v n 1) (zTs v n) b).2), 0)).1.1) ((zIt (zTxS v n) n 0 ((zGdH zClH (zDn v n 1), (zGd (zDn v n 1) (zTs v n) b).2), 0)).1.2))))) (ws' := [(oa, .inl (G.2 5, 1, .inr (.inl og)))] ++ ([(o9, .inr (6, [.ref t9, .ref a.1, u2, u3, .ref d9, .ref mq, u6, .ref b9])), (t9, .inr (5, [.ref z9, .int (nI n)])), (z9, .inl (G.2 0, 120, .inl v)), (b9, .inl (G.2 2, 2, .inl (upd (upd K 0 0) 1 0))), (d9, .inr (1, [.long ((zGd (zDn v n 1) (zTs v n) b).1)]))] ++ ((mmW G mq mz ga 0 mx mh mb) ++ (gmW G a ((zIt (zTxS v n) n 0 ((zGdH zClH (zDn v n 1), (zGd (zDn v n 1) (zTs v n) b).2), 0)).1.1) ((zIt (zTxS v n) n 0 ((zGdH zClH (zDn v n 1), (zGd (zDn v n 1) (zTs v n) b).2), 0)).1.2))))) ⟨hx, hb, hml, hown, hts⟩ (c_x_load0 l G o9 u2 u3 u6 t9 z9 n v b9 K d9 x0 mq mz mk mx ga mh mb a h b hu hn hc) (cwV 0 hts gL_load_X6_load rfl rfl rfl (by decide +kernel) ⟨(Nat.le_of_ble_eq_true rfl), (Nat.le_of_ble_eq_true rfl)⟩) 6 rfl rfl rfl rfl hl.1 rfl (Nat.le_of_ble_eq_true rfl) dL_load_3 ⟨(Nat.le_of_ble_eq_true rfl), (Nat.le_of_ble_eq_true rfl)⟩ hK hE hA hM List.perm_append_comm List.perm_append_comm (fun H locs hM hz => ?_)
  refine lv_i2l (v := Int32.toInt64 (nI (zIt (zTxS v n) n 0 ((zGdH zClH (zDn v n 1), (zGd (zDn v n 1) (zTs v n) b).2), 0)).2)) hx hb dL_load_6 rfl ?_
  refine z_last (ws' := [(oa, .inl (G.2 5, 1, .inr (.inl (vp_updL og 0 (Int32.toInt64 (nI (zIt (zTxS v n) n 0 ((zGdH zClH (zDn v n 1), (zGd (zDn v n 1) (zTs v n) b).2), 0)).2))))))] ++ ([(o9, .inr (6, [.ref t9, .ref a.1, u2, u3, .ref d9, .ref mq, u6, .ref b9])), (t9, .inr (5, [.ref z9, .int (nI n)])), (z9, .inl (G.2 0, 120, .inl v)), (b9, .inl (G.2 2, 2, .inl (upd (upd K 0 0) 1 0))), (d9, .inr (1, [.long ((zGd (zDn v n 1) (zTs v n) b).1)]))] ++ ((mmW G mq mz ga 0 mx mh mb) ++ (gmW G a ((zIt (zTxS v n) n 0 ((zGdH zClH (zDn v n 1), (zGd (zDn v n 1) (zTs v n) b).2), 0)).1.1) ((zIt (zTxS v n) n 0 ((zGdH zClH (zDn v n 1), (zGd (zDn v n 1) (zTs v n) b).2), 0)).1.2))))) hx hb hK hM 0 rfl (vp_in_nI (n := 0) (by decide) (by decide)) dL_load_7 rfl (fun H locs hM => ?_)
  refine lv_goto (tgt := 14) hx hb dL_load_8 (by decide) ?_
  refine lv_iconst (v := 0) hx hb dL_load_14 (by decide) ?_
  exact z_iret hx hb hr hlocks dL_load_15 hM (Nat.le_of_ble_eq_true rfl) (Nat.le_of_ble_eq_true rfl) rfl
