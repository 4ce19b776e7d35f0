theorem bds2_pm {G : zC} {B B2 : Nat → zBA} {b b2 : Nat → Nat → Int32} {p : Nat} (hp : p < 4) : (bdsW G B b ++ bdsW G B2 b2).Perm ((bdW G (B p) (b p) ++ bdW G (B2 p) (b2 p)) ++ (bdsR G B b p ++ bdsR G B2 b2 p)) := (List.Perm.append (bds_pm hp) (bds_pm hp)).trans pm_4
theorem bds2_pu {G : zC} {B B2 : Nat → zBA} {b b2 : Nat → Nat → Int32} {p : Nat} {f : Nat → Int32} (hp : p < 4) : ((bdW G (B p) f ++ bdW G (B2 p) (b2 p)) ++ (bdsR G B b p ++ bdsR G B2 b2 p)).Perm (bdsW G B (va_up b p f) ++ bdsW G B2 b2) := pm_4.trans (List.Perm.append (bds_pu hp) (bds_pm hp).symm)
theorem pm_cd {x c d : va_W} : ((x ++ c) ++ d).Perm ((x ++ d) ++ c) := by
  rw [List.append_assoc, List.append_assoc]
  exact List.Perm.append_left x List.perm_append_comm
theorem pm_dl {x d w c r : va_W} (h : w.Perm (c ++ r)) : ((x ++ d) ++ w).Perm ((c ++ d) ++ (x ++ r)) :=
  (List.Perm.append_left _ h).trans (pm_4.trans ((List.Perm.append_right _ List.perm_append_comm).trans pm_4))
theorem pm_du {x d w c r : va_W} (h : (c ++ r).Perm w) : ((c ++ d) ++ (x ++ r)).Perm ((x ++ d) ++ w) := (pm_dl h.symm).symm
def zReH (h : Nat → Int32) : Nat → Int32 := fun k => if 6 ≤ k ∧ k < 9 then zFirst (k - 6) else h k
theorem zReH_s (h : Nat → Int32) {i : Nat} (hi : i < 3) : zReH h (6 + i) = zFirst i := by
  unfold zReH
  rw [if_pos (by omega), Nat.add_sub_cancel_left]
set_option maxHeartbeats 4000000 in
set_option maxRecDepth 100000 in
theorem c_gmCopy (l : Launch) (G : zC) (a q : zGA) (h g : Nat → Int32) (b d : Nat → Nat → Int32) (hz2 : g 2 = 0 ∨ g 2 = 1) (hz4 : g 4 = 0 ∨ g 4 = 1) : zMet l G yX2_copyFrom wsX2_copyFrom rmX2_copyFrom [.ref a.1, .ref q.1] (gmW G a h b ++ gmW G q g d) none (gmW G a g d ++ gmW G q g d) := by
  refine zMet_of (cc := cX2_copyFrom) (maxL := 3) (ret := none) (by decide) rfl (Nat.le_of_ble_eq_true rfl) ?_
  intro p e s m below meth c A ls hx hb hr hml hown hts hK hA hE hlocks hin hM hl
  have hown : s.vm.findClass RX2 = some m.cls := hown
  have hl : lv_has ls 3 [(0, .ref a.1), (1, .ref q.1)] := hl
  have hM : zM G A s s.heap [] ([(a.1, .inr (2, [.ref a.2.1, .ref a.2.2.1, .int (h 0), .int (h 1), .int (h 2), .int (h 3), .int (h 4), .int (h 5)])), (a.2.1, .inl (G.2 1, 3, .inl (fun i => h (6 + i)))), (a.2.2.1, .inl (G.2 3, 4, .inr (.inr (.inr (.inr (fun p => some (a.2.2.2 p).1)))))), (q.1, .inr (2, [.ref q.2.1, .ref q.2.2.1, .int (g 0), .int (g 1), .int (g 2), .int (g 3), .int (g 4), .int (g 5)])), (q.2.1, .inl (G.2 1, 3, .inl (fun i => g (6 + i)))), (q.2.2.1, .inl (G.2 3, 4, .inr (.inr (.inr (.inr (fun p => some (q.2.2.2 p).1))))))] ++ ((bdsW G a.2.2.2 b) ++ (bdsW G q.2.2.2 d))) := zM_perm (pm_4 (x1 := gmX G a h) (c1 := bdsW G a.2.2.2 b) (x2 := gmX G q g) (c2 := bdsW G q.2.2.2 d)) hM
  refine lv_aload_n hx hb dX2_copyFrom_0 rfl (lv_at hl 1 rfl) ?_
  refine z_get (ci := 2) (v := .ref q.2.1) (C := RX2) (T := TX2) (N := 8) hx hb hts (by decide +kernel) hown hK hM 3 rfl rfl 0 (by decide) (hts (.fieldLink RX2 9 "ShiftIsles$Game" "settings" "[I") (by decide +kernel)) (fun _ h9 => h9) rfl dX2_copyFrom_1 ?_
  refine lv_iconst (v := 0) hx hb dX2_copyFrom_4 (by decide) ?_
  refine lv_aload_n hx hb dX2_copyFrom_5 rfl (lv_at hl 0 rfl) ?_
  refine z_get (ci := 2) (v := .ref a.2.1) (C := RX2) (T := TX2) (N := 8) hx hb hts (by decide +kernel) hown hK hM 0 rfl rfl 0 (by decide) (hts (.fieldLink RX2 9 "ShiftIsles$Game" "settings" "[I") (by decide +kernel)) (fun _ h9 => h9) rfl dX2_copyFrom_6 ?_
  refine lv_iconst (v := 0) hx hb dX2_copyFrom_9 (by decide) ?_
  refine lv_iconst (v := 3) hx hb dX2_copyFrom_10 (by decide) ?_
  refine z_copyi (ws' := [(a.1, .inr (2, [.ref a.2.1, .ref a.2.2.1, .int (h 0), .int (h 1), .int (h 2), .int (h 3), .int (h 4), .int (h 5)])), (a.2.1, .inl (G.2 1, 3, .inl (va_cpy (fun i => g (6 + i)) (fun i => h (6 + i)) 0 0 3))), (a.2.2.1, .inl (G.2 3, 4, .inr (.inr (.inr (.inr (fun p => some (a.2.2.2 p).1)))))), (q.1, .inr (2, [.ref q.2.1, .ref q.2.2.1, .int (g 0), .int (g 1), .int (g 2), .int (g 3), .int (g 4), .int (g 5)])), (q.2.1, .inl (G.2 1, 3, .inl (fun i => g (6 + i)))), (q.2.2.1, .inl (G.2 3, 4, .inr (.inr (.inr (.inr (fun p => some (q.2.2.2 p).1))))))] ++ ((bdsW G a.2.2.2 b) ++ (bdsW G q.2.2.2 d))) hx hb (hml.trans hl.1.symm) hown (hts (.methodLink RX2 18 arraycopyName) (by decide +kernel)) (hts (.native arraycopyName) (by decide +kernel)) (hts (.static arraycopyName) (by decide +kernel)) (hts (.initialized "java/lang/System") (by decide +kernel)) hK hM 4 1 rfl rfl (by decide) (by decide) (by decide) (by decide) (by decide) (Nat.le_of_ble_eq_true rfl) (by decide) dX2_copyFrom_11 rfl (fun H locs hM => ?_)
  refine lv_iconst (v := nI 0) hx hb dX2_copyFrom_14 (by decide) ?_
  refine lv_istore_n (lv' := [(2, .int (nI 0)), (0, .ref a.1), (1, .ref q.1)]) hx hb dX2_copyFrom_15 rfl hl (by decide) rfl (fun ls hl => ?_)
  have lp16 : ∀ (k : Nat) (w0 : Nat), (w0 + k = 4) → ∀ (H : Heap) (locs : List Loc), zM G A s H locs ([(a.1, .inr (2, [.ref a.2.1, .ref a.2.2.1, .int (h 0), .int (h 1), .int (h 2), .int (h 3), .int (h 4), .int (h 5)])), (a.2.1, .inl (G.2 1, 3, .inl (va_cpy (fun i => g (6 + i)) (fun i => h (6 + i)) 0 0 3))), (a.2.2.1, .inl (G.2 3, 4, .inr (.inr (.inr (.inr (fun p => some (a.2.2.2 p).1)))))), (q.1, .inr (2, [.ref q.2.1, .ref q.2.2.1, .int (g 0), .int (g 1), .int (g 2), .int (g 3), .int (g 4), .int (g 5)])), (q.2.1, .inl (G.2 1, 3, .inl (fun i => g (6 + i)))), (q.2.2.1, .inl (G.2 3, 4, .inr (.inr (.inr (.inr (fun p => some (q.2.2.2 p).1))))))] ++ ((bdsW G a.2.2.2 (zCp b d w0)) ++ (bdsW G q.2.2.2 d))) → ∀ ls : Array Slot, lv_has ls 3 [(0, .ref a.1), (1, .ref q.1), (2, .int (nI w0))] → W p l e rmX2_copyFrom s m ([.ref a.1, .ref q.1] : List Value).toArray below meth c H locs 0 0 (zEnd G below ([.ref a.1, .ref q.1] : List Value).toArray s rmX2_copyFrom A none (gmW G a g d ++ gmW G q g d)) (F0 m 16 ls []) := by
    intro k
    induction k with
    | zero =>
      intro w0 hik H locs hM ls hl
      obtain rfl : w0 = 4 := by omega
      refine lv_iload_n hx hb dX2_copyFrom_16 rfl (lv_at hl 2 rfl) ?_
      refine lv_iconst (v := nI 4) hx hb dX2_copyFrom_17 (by decide) ?_
      refine lv_icmp_ge (tgt := 42) hx hb dX2_copyFrom_18 (by decide) (fun c_1 => ?_) (fun c_1 => absurd (nI_le (by omega) (by omega)) c_1)
      have hM : zM G A s H locs ([(a.1, .inr (2, [.ref a.2.1, .ref a.2.2.1, .int (h 0), .int (h 1), .int (h 2), .int (h 3), .int (h 4), .int (h 5)])), (a.2.1, .inl (G.2 1, 3, .inl (va_cpy (fun i => g (6 + i)) (fun i => h (6 + i)) 0 0 3))), (a.2.2.1, .inl (G.2 3, 4, .inr (.inr (.inr (.inr (fun p => some (a.2.2.2 p).1)))))), (q.1, .inr (2, [.ref q.2.1, .ref q.2.2.1, .int (g 0), .int (g 1), .int (g 2), .int (g 3), .int (g 4), .int (g 5)])), (q.2.1, .inl (G.2 1, 3, .inl (fun i => g (6 + i)))), (q.2.2.1, .inl (G.2 3, 4, .inr (.inr (.inr (.inr (fun p => some (q.2.2.2 p).1))))))] ++ ((bdsW G a.2.2.2 d) ++ (bdsW G q.2.2.2 d))) := hM
      refine lv_aload_n hx hb dX2_copyFrom_42 rfl (lv_at hl 0 rfl) ?_
      refine lv_aload_n hx hb dX2_copyFrom_43 rfl (lv_at hl 1 rfl) ?_
      refine z_get (ci := 2) (v := .int (g 0)) (C := RX2) (T := TX2) (N := 8) hx hb hts (by decide +kernel) hown hK hM 3 rfl rfl 2 (by decide) (hts (.fieldLink RX2 39 "ShiftIsles$Game" "players" "I") (by decide +kernel)) (fun _ h9 => h9) rfl dX2_copyFrom_44 ?_
      refine z_put (ci := 2) (ty := .int) (v := .int (g 0)) (C := RX2) (T := TX2) (N := 8) (ws' := [(a.1, .inr (2, [.ref a.2.1, .ref a.2.2.1, .int (g 0), .int (h 1), .int (h 2), .int (h 3), .int (h 4), .int (h 5)])), (a.2.1, .inl (G.2 1, 3, .inl (va_cpy (fun i => g (6 + i)) (fun i => h (6 + i)) 0 0 3))), (a.2.2.1, .inl (G.2 3, 4, .inr (.inr (.inr (.inr (fun p => some (a.2.2.2 p).1)))))), (q.1, .inr (2, [.ref q.2.1, .ref q.2.2.1, .int (g 0), .int (g 1), .int (g 2), .int (g 3), .int (g 4), .int (g 5)])), (q.2.1, .inl (G.2 1, 3, .inl (fun i => g (6 + i)))), (q.2.2.1, .inl (G.2 3, 4, .inr (.inr (.inr (.inr (fun p => some (q.2.2.2 p).1))))))] ++ ((bdsW G a.2.2.2 d) ++ (bdsW G q.2.2.2 d))) hx hb hts (by decide +kernel) tyX2 tyX2_ok nmX2 hown hK hM 0 rfl rfl 2 (by decide) (hts (.fieldLink RX2 39 "ShiftIsles$Game" "players" "I") (by decide +kernel)) (fun _ h9 => h9) rfl (by decide +kernel) rfl rfl (Nat.le_of_ble_eq_true rfl) dX2_copyFrom_47 rfl (fun H locs hM => ?_)
      refine lv_aload_n hx hb dX2_copyFrom_50 rfl (lv_at hl 0 rfl) ?_
      refine lv_aload_n hx hb dX2_copyFrom_51 rfl (lv_at hl 1 rfl) ?_
      refine z_get (ci := 2) (v := .int (g 1)) (C := RX2) (T := TX2) (N := 8) hx hb hts (by decide +kernel) hown hK hM 3 rfl rfl 3 (by decide) (hts (.fieldLink RX2 42 "ShiftIsles$Game" "turn" "I") (by decide +kernel)) (fun _ h9 => h9) rfl dX2_copyFrom_52 ?_
      refine z_put (ci := 2) (ty := .int) (v := .int (g 1)) (C := RX2) (T := TX2) (N := 8) (ws' := [(a.1, .inr (2, [.ref a.2.1, .ref a.2.2.1, .int (g 0), .int (g 1), .int (h 2), .int (h 3), .int (h 4), .int (h 5)])), (a.2.1, .inl (G.2 1, 3, .inl (va_cpy (fun i => g (6 + i)) (fun i => h (6 + i)) 0 0 3))), (a.2.2.1, .inl (G.2 3, 4, .inr (.inr (.inr (.inr (fun p => some (a.2.2.2 p).1)))))), (q.1, .inr (2, [.ref q.2.1, .ref q.2.2.1, .int (g 0), .int (g 1), .int (g 2), .int (g 3), .int (g 4), .int (g 5)])), (q.2.1, .inl (G.2 1, 3, .inl (fun i => g (6 + i)))), (q.2.2.1, .inl (G.2 3, 4, .inr (.inr (.inr (.inr (fun p => some (q.2.2.2 p).1))))))] ++ ((bdsW G a.2.2.2 d) ++ (bdsW G q.2.2.2 d))) hx hb hts (by decide +kernel) tyX2 tyX2_ok nmX2 hown hK hM 0 rfl rfl 3 (by decide) (hts (.fieldLink RX2 42 "ShiftIsles$Game" "turn" "I") (by decide +kernel)) (fun _ h9 => h9) rfl (by decide +kernel) rfl rfl (Nat.le_of_ble_eq_true rfl) dX2_copyFrom_55 rfl (fun H locs hM => ?_)
      refine lv_aload_n hx hb dX2_copyFrom_58 rfl (lv_at hl 0 rfl) ?_
      refine lv_aload_n hx hb dX2_copyFrom_59 rfl (lv_at hl 1 rfl) ?_
      refine z_get (ci := 2) (v := .int (g 2)) (C := RX2) (T := TX2) (N := 8) hx hb hts (by decide +kernel) hown hK hM 3 rfl rfl 4 (by decide) (hts (.fieldLink RX2 45 "ShiftIsles$Game" "shifted" "Z") (by decide +kernel)) (fun _ h9 => h9) rfl dX2_copyFrom_60 ?_
      refine z_put (ci := 2) (ty := .boolean) (v := .int (g 2)) (C := RX2) (T := TX2) (N := 8) (ws' := [(a.1, .inr (2, [.ref a.2.1, .ref a.2.2.1, .int (g 0), .int (g 1), .int (g 2), .int (h 3), .int (h 4), .int (h 5)])), (a.2.1, .inl (G.2 1, 3, .inl (va_cpy (fun i => g (6 + i)) (fun i => h (6 + i)) 0 0 3))), (a.2.2.1, .inl (G.2 3, 4, .inr (.inr (.inr (.inr (fun p => some (a.2.2.2 p).1)))))), (q.1, .inr (2, [.ref q.2.1, .ref q.2.2.1, .int (g 0), .int (g 1), .int (g 2), .int (g 3), .int (g 4), .int (g 5)])), (q.2.1, .inl (G.2 1, 3, .inl (fun i => g (6 + i)))), (q.2.2.1, .inl (G.2 3, 4, .inr (.inr (.inr (.inr (fun p => some (q.2.2.2 p).1))))))] ++ ((bdsW G a.2.2.2 d) ++ (bdsW G q.2.2.2 d))) hx hb hts (by decide +kernel) tyX2 tyX2_ok nmX2 hown hK hM 0 rfl rfl 4 (by decide) (hts (.fieldLink RX2 45 "ShiftIsles$Game" "shifted" "Z") (by decide +kernel)) (fun _ h9 => h9) rfl (by decide +kernel) (by rcases hz2 with e9 | e9 <;> rw [e9] <;> rfl) (by rcases hz2 with e9 | e9 <;> rw [e9] <;> rfl) (Nat.le_of_ble_eq_true rfl) dX2_copyFrom_63 rfl (fun H locs hM => ?_)
      refine lv_aload_n hx hb dX2_copyFrom_66 rfl (lv_at hl 0 rfl) ?_
      refine lv_aload_n hx hb dX2_copyFrom_67 rfl (lv_at hl 1 rfl) ?_
      refine z_get (ci := 2) (v := .int (g 3)) (C := RX2) (T := TX2) (N := 8) hx hb hts (by decide +kernel) hown hK hM 3 rfl rfl 5 (by decide) (hts (.fieldLink RX2 49 "ShiftIsles$Game" "ended" "I") (by decide +kernel)) (fun _ h9 => h9) rfl dX2_copyFrom_68 ?_
      refine z_put (ci := 2) (ty := .int) (v := .int (g 3)) (C := RX2) (T := TX2) (N := 8) (ws' := [(a.1, .inr (2, [.ref a.2.1, .ref a.2.2.1, .int (g 0), .int (g 1), .int (g 2), .int (g 3), .int (h 4), .int (h 5)])), (a.2.1, .inl (G.2 1, 3, .inl (va_cpy (fun i => g (6 + i)) (fun i => h (6 + i)) 0 0 3))), (a.2.2.1, .inl (G.2 3, 4, .inr (.inr (.inr (.inr (fun p => some (a.2.2.2 p).1)))))), (q.1, .inr (2, [.ref q.2.1, .ref q.2.2.1, .int (g 0), .int (g 1), .int (g 2), .int (g 3), .int (g 4), .int (g 5)])), (q.2.1, .inl (G.2 1, 3, .inl (fun i => g (6 + i)))), (q.2.2.1, .inl (G.2 3, 4, .inr (.inr (.inr (.inr (fun p => some (q.2.2.2 p).1))))))] ++ ((bdsW G a.2.2.2 d) ++ (bdsW G q.2.2.2 d))) hx hb hts (by decide +kernel) tyX2 tyX2_ok nmX2 hown hK hM 0 rfl rfl 5 (by decide) (hts (.fieldLink RX2 49 "ShiftIsles$Game" "ended" "I") (by decide +kernel)) (fun _ h9 => h9) rfl (by decide +kernel) rfl rfl (Nat.le_of_ble_eq_true rfl) dX2_copyFrom_71 rfl (fun H locs hM => ?_)
      refine lv_aload_n hx hb dX2_copyFrom_74 rfl (lv_at hl 0 rfl) ?_
      refine lv_aload_n hx hb dX2_copyFrom_75 rfl (lv_at hl 1 rfl) ?_
      refine z_get (ci := 2) (v := .int (g 4)) (C := RX2) (T := TX2) (N := 8) hx hb hts (by decide +kernel) hown hK hM 3 rfl rfl 6 (by decide) (hts (.fieldLink RX2 52 "ShiftIsles$Game" "over" "Z") (by decide +kernel)) (fun _ h9 => h9) rfl dX2_copyFrom_76 ?_
      refine z_put (ci := 2) (ty := .boolean) (v := .int (g 4)) (C := RX2) (T := TX2) (N := 8) (ws' := [(a.1, .inr (2, [.ref a.2.1, .ref a.2.2.1, .int (g 0), .int (g 1), .int (g 2), .int (g 3), .int (g 4), .int (h 5)])), (a.2.1, .inl (G.2 1, 3, .inl (va_cpy (fun i => g (6 + i)) (fun i => h (6 + i)) 0 0 3))), (a.2.2.1, .inl (G.2 3, 4, .inr (.inr (.inr (.inr (fun p => some (a.2.2.2 p).1)))))), (q.1, .inr (2, [.ref q.2.1, .ref q.2.2.1, .int (g 0), .int (g 1), .int (g 2), .int (g 3), .int (g 4), .int (g 5)])), (q.2.1, .inl (G.2 1, 3, .inl (fun i => g (6 + i)))), (q.2.2.1, .inl (G.2 3, 4, .inr (.inr (.inr (.inr (fun p => some (q.2.2.2 p).1))))))] ++ ((bdsW G a.2.2.2 d) ++ (bdsW G q.2.2.2 d))) hx hb hts (by decide +kernel) tyX2 tyX2_ok nmX2 hown hK hM 0 rfl rfl 6 (by decide) (hts (.fieldLink RX2 52 "ShiftIsles$Game" "over" "Z") (by decide +kernel)) (fun _ h9 => h9) rfl (by decide +kernel) (by rcases hz4 with e9 | e9 <;> rw [e9] <;> rfl) (by rcases hz4 with e9 | e9 <;> rw [e9] <;> rfl) (Nat.le_of_ble_eq_true rfl) dX2_copyFrom_79 rfl (fun H locs hM => ?_)
      refine lv_aload_n hx hb dX2_copyFrom_82 rfl (lv_at hl 0 rfl) ?_
      refine lv_aload_n hx hb dX2_copyFrom_83 rfl (lv_at hl 1 rfl) ?_
      refine z_get (ci := 2) (v := .int (g 5)) (C := RX2) (T := TX2) (N := 8) hx hb hts (by decide +kernel) hown hK hM 3 rfl rfl 7 (by decide) (hts (.fieldLink RX2 31 "ShiftIsles$Game" "winner" "I") (by decide +kernel)) (fun _ h9 => h9) rfl dX2_copyFrom_84 ?_
      refine z_put (ci := 2) (ty := .int) (v := .int (g 5)) (C := RX2) (T := TX2) (N := 8) (ws' := [(a.1, .inr (2, [.ref a.2.1, .ref a.2.2.1, .int (g 0), .int (g 1), .int (g 2), .int (g 3), .int (g 4), .int (g 5)])), (a.2.1, .inl (G.2 1, 3, .inl (va_cpy (fun i => g (6 + i)) (fun i => h (6 + i)) 0 0 3))), (a.2.2.1, .inl (G.2 3, 4, .inr (.inr (.inr (.inr (fun p => some (a.2.2.2 p).1)))))), (q.1, .inr (2, [.ref q.2.1, .ref q.2.2.1, .int (g 0), .int (g 1), .int (g 2), .int (g 3), .int (g 4), .int (g 5)])), (q.2.1, .inl (G.2 1, 3, .inl (fun i => g (6 + i)))), (q.2.2.1, .inl (G.2 3, 4, .inr (.inr (.inr (.inr (fun p => some (q.2.2.2 p).1))))))] ++ ((bdsW G a.2.2.2 d) ++ (bdsW G q.2.2.2 d))) hx hb hts (by decide +kernel) tyX2 tyX2_ok nmX2 hown hK hM 0 rfl rfl 7 (by decide) (hts (.fieldLink RX2 31 "ShiftIsles$Game" "winner" "I") (by decide +kernel)) (fun _ h9 => h9) rfl (by decide +kernel) rfl rfl (Nat.le_of_ble_eq_true rfl) dX2_copyFrom_87 rfl (fun H locs hM => ?_)
      exact z_vret hx hb hr hlocks dX2_copyFrom_90 (zM_sim (zSim_app (gm_fold (H := g) (st := va_cpy (fun i => g (6 + i)) (fun i => h (6 + i)) 0 0 3) rfl rfl rfl rfl rfl rfl (fun i hi => cpy_at hi)) (zSim_rf (gmW G q g d))) (zM_perm (pm_4 (x1 := [(a.1, .inr (2, [.ref a.2.1, .ref a.2.2.1, .int (g 0), .int (g 1), .int (g 2), .int (g 3), .int (g 4), .int (g 5)])), (a.2.1, .inl (G.2 1, 3, .inl (va_cpy (fun i => g (6 + i)) (fun i => h (6 + i)) 0 0 3))), (a.2.2.1, .inl (G.2 3, 4, .inr (.inr (.inr (.inr (fun p => some (a.2.2.2 p).1))))))]) (c1 := bdsW G a.2.2.2 d) (x2 := gmX G q g) (c2 := bdsW G q.2.2.2 d)).symm hM)) (Nat.le_of_ble_eq_true rfl) (Nat.le_of_ble_eq_true rfl)
    | succ k ih =>
      intro w0 hik H locs hM ls hl
      refine lv_iload_n hx hb dX2_copyFrom_16 rfl (lv_at hl 2 rfl) ?_
      refine lv_iconst (v := nI 4) hx hb dX2_copyFrom_17 (by decide) ?_
      refine lv_icmp_ge (tgt := 42) hx hb dX2_copyFrom_18 (by decide) (fun c_2 => absurd c_2 (nI_ge (by omega) (by omega))) (fun c_2 => ?_)
      refine lv_aload_n hx hb dX2_copyFrom_21 rfl (lv_at hl 0 rfl) ?_
      refine z_get (ci := 2) (v := .ref a.2.2.1) (C := RX2) (T := TX2) (N := 8) hx hb hts (by decide +kernel) hown hK hM 0 rfl rfl 1 (by decide) (hts (.fieldLink RX2 26 "ShiftIsles$Game" "boards" "[LShiftIsles$Board;") (by decide +kernel)) (fun _ h9 => h9) rfl dX2_copyFrom_22 ?_
      refine lv_iload_n hx hb dX2_copyFrom_25 rfl (lv_at hl 2 rfl) ?_
      refine z_aald hx hb hK hM 2 3 rfl rfl (v := (a.2.2.2 w0).1) (vp_in_nI (by omega) (by decide)) (by rw [nI_clamp (by omega)]) dX2_copyFrom_26 ?_
      refine lv_aload_n hx hb dX2_copyFrom_27 rfl (lv_at hl 1 rfl) ?_
      refine z_get (ci := 2) (v := .ref q.2.2.1) (C := RX2) (T := TX2) (N := 8) hx hb hts (by decide +kernel) hown hK hM 3 rfl rfl 1 (by decide) (hts (.fieldLink RX2 26 "ShiftIsles$Game" "boards" "[LShiftIsles$Board;") (by decide +kernel)) (fun _ h9 => h9) rfl dX2_copyFrom_28 ?_
      refine lv_iload_n hx hb dX2_copyFrom_31 rfl (lv_at hl 2 rfl) ?_
      refine z_aald hx hb hK hM 5 3 rfl rfl (v := (q.2.2.2 w0).1) (vp_in_nI (by omega) (by decide)) (by rw [nI_clamp (by omega)]) dX2_copyFrom_32 ?_
      have hi4 : w0 < 4 := by omega
      have hp9 : List.Perm ([(a.1, .inr (2, [.ref a.2.1, .ref a.2.2.1, .int (h 0), .int (h 1), .int (h 2), .int (h 3), .int (h 4), .int (h 5)])), (a.2.1, .inl (G.2 1, 3, .inl (va_cpy (fun i => g (6 + i)) (fun i => h (6 + i)) 0 0 3))), (a.2.2.1, .inl (G.2 3, 4, .inr (.inr (.inr (.inr (fun p => some (a.2.2.2 p).1)))))), (q.1, .inr (2, [.ref q.2.1, .ref q.2.2.1, .int (g 0), .int (g 1), .int (g 2), .int (g 3), .int (g 4), .int (g 5)])), (q.2.1, .inl (G.2 1, 3, .inl (fun i => g (6 + i)))), (q.2.2.1, .inl (G.2 3, 4, .inr (.inr (.inr (.inr (fun p => some (q.2.2.2 p).1))))))] ++ ((bdsW G a.2.2.2 (zCp b d w0)) ++ (bdsW G q.2.2.2 d)) : va_W) ((bdW G (a.2.2.2 w0) (zCp b d w0 w0) ++ bdW G (q.2.2.2 w0) (d w0)) ++ ([(a.1, .inr (2, [.ref a.2.1, .ref a.2.2.1, .int (h 0), .int (h 1), .int (h 2), .int (h 3), .int (h 4), .int (h 5)])), (a.2.1, .inl (G.2 1, 3, .inl (va_cpy (fun i => g (6 + i)) (fun i => h (6 + i)) 0 0 3))), (a.2.2.1, .inl (G.2 3, 4, .inr (.inr (.inr (.inr (fun p => some (a.2.2.2 p).1)))))), (q.1, .inr (2, [.ref q.2.1, .ref q.2.2.1, .int (g 0), .int (g 1), .int (g 2), .int (g 3), .int (g 4), .int (g 5)])), (q.2.1, .inl (G.2 1, 3, .inl (fun i => g (6 + i)))), (q.2.2.1, .inl (G.2 3, 4, .inr (.inr (.inr (.inr (fun p => some (q.2.2.2 p).1))))))] ++ (bdsR G a.2.2.2 (zCp b d w0) w0 ++ bdsR G q.2.2.2 d w0))) := pm_mid _ (bds2_pm hi4)
      have hq9 : List.Perm ((bdW G (a.2.2.2 w0) (d w0) ++ bdW G (q.2.2.2 w0) (d w0)) ++ ([(a.1, .inr (2, [.ref a.2.1, .ref a.2.2.1, .int (h 0), .int (h 1), .int (h 2), .int (h 3), .int (h 4), .int (h 5)])), (a.2.1, .inl (G.2 1, 3, .inl (va_cpy (fun i => g (6 + i)) (fun i => h (6 + i)) 0 0 3))), (a.2.2.1, .inl (G.2 3, 4, .inr (.inr (.inr (.inr (fun p => some (a.2.2.2 p).1)))))), (q.1, .inr (2, [.ref q.2.1, .ref q.2.2.1, .int (g 0), .int (g 1), .int (g 2), .int (g 3), .int (g 4), .int (g 5)])), (q.2.1, .inl (G.2 1, 3, .inl (fun i => g (6 + i)))), (q.2.2.1, .inl (G.2 3, 4, .inr (.inr (.inr (.inr (fun p => some (q.2.2.2 p).1))))))] ++ (bdsR G a.2.2.2 (zCp b d w0) w0 ++ bdsR G q.2.2.2 d w0))) ([(a.1, .inr (2, [.ref a.2.1, .ref a.2.2.1, .int (h 0), .int (h 1), .int (h 2), .int (h 3), .int (h 4), .int (h 5)])), (a.2.1, .inl (G.2 1, 3, .inl (va_cpy (fun i => g (6 + i)) (fun i => h (6 + i)) 0 0 3))), (a.2.2.1, .inl (G.2 3, 4, .inr (.inr (.inr (.inr (fun p => some (a.2.2.2 p).1)))))), (q.1, .inr (2, [.ref q.2.1, .ref q.2.2.1, .int (g 0), .int (g 1), .int (g 2), .int (g 3), .int (g 4), .int (g 5)])), (q.2.1, .inl (G.2 1, 3, .inl (fun i => g (6 + i)))), (q.2.2.1, .inl (G.2 3, 4, .inr (.inr (.inr (.inr (fun p => some (q.2.2.2 p).1))))))] ++ ((bdsW G a.2.2.2 (va_up (zCp b d w0) w0 (d w0))) ++ (bdsW G q.2.2.2 d)) : va_W) := pm_mu _ (bds2_pu hi4)
      refine z_callV (As := [.ref ((q.2.2.2 w0).1)]) (rest := []) (wc := bdW G (a.2.2.2 w0) (zCp b d w0 w0) ++ bdW G (q.2.2.2 w0) (d w0)) (wr := [(a.1, .inr (2, [.ref a.2.1, .ref a.2.2.1, .int (h 0), .int (h 1), .int (h 2), .int (h 3), .int (h 4), .int (h 5)])), (a.2.1, .inl (G.2 1, 3, .inl (va_cpy (fun i => g (6 + i)) (fun i => h (6 + i)) 0 0 3))), (a.2.2.1, .inl (G.2 3, 4, .inr (.inr (.inr (.inr (fun p => some (a.2.2.2 p).1)))))), (q.1, .inr (2, [.ref q.2.1, .ref q.2.2.1, .int (g 0), .int (g 1), .int (g 2), .int (g 3), .int (g 4), .int (g 5)])), (q.2.1, .inl (G.2 1, 3, .inl (fun i => g (6 + i)))), (q.2.2.1, .inl (G.2 3, 4, .inr (.inr (.inr (.inr (fun p => some (q.2.2.2 p).1))))))] ++ (bdsR G a.2.2.2 (zCp b d w0) w0 ++ bdsR G q.2.2.2 d w0)) (w1 := bdW G (a.2.2.2 w0) (d w0) ++ bdW G (q.2.2.2 w0) (d w0)) (ws' := [(a.1, .inr (2, [.ref a.2.1, .ref a.2.2.1, .int (h 0), .int (h 1), .int (h 2), .int (h 3), .int (h 4), .int (h 5)])), (a.2.1, .inl (G.2 1, 3, .inl (va_cpy (fun i => g (6 + i)) (fun i => h (6 + i)) 0 0 3))), (a.2.2.1, .inl (G.2 3, 4, .inr (.inr (.inr (.inr (fun p => some (a.2.2.2 p).1)))))), (q.1, .inr (2, [.ref q.2.1, .ref q.2.2.1, .int (g 0), .int (g 1), .int (g 2), .int (g 3), .int (g 4), .int (g 5)])), (q.2.1, .inl (G.2 1, 3, .inl (fun i => g (6 + i)))), (q.2.2.1, .inl (G.2 3, 4, .inr (.inr (.inr (.inr (fun p => some (q.2.2.2 p).1))))))] ++ ((bdsW G a.2.2.2 (va_up (zCp b d w0) w0 (d w0))) ++ (bdsW G q.2.2.2 d))) ⟨hx, hb, hml, hown, hts⟩ (c_bdCopy l G (a.2.2.2 w0) (q.2.2.2 w0) (zCp b d w0 w0) (d w0)) (cwV 1 hts gX2_copyFrom_X0_copyFrom rfl rfl rfl (by decide +kernel) ⟨Nat.le_of_ble_eq_true rfl, Nat.le_of_ble_eq_true rfl⟩) 0 rfl rfl rfl rfl hl.1 rfl (Nat.le_of_ble_eq_true rfl) dX2_copyFrom_33 ⟨Nat.le_of_ble_eq_true rfl, Nat.le_of_ble_eq_true rfl⟩ hK hE hA hM hp9 hq9 (fun H locs hM hz => ?_)
      have hM : zM G A s H locs ([(a.1, .inr (2, [.ref a.2.1, .ref a.2.2.1, .int (h 0), .int (h 1), .int (h 2), .int (h 3), .int (h 4), .int (h 5)])), (a.2.1, .inl (G.2 1, 3, .inl (va_cpy (fun i => g (6 + i)) (fun i => h (6 + i)) 0 0 3))), (a.2.2.1, .inl (G.2 3, 4, .inr (.inr (.inr (.inr (fun p => some (a.2.2.2 p).1)))))), (q.1, .inr (2, [.ref q.2.1, .ref q.2.2.1, .int (g 0), .int (g 1), .int (g 2), .int (g 3), .int (g 4), .int (g 5)])), (q.2.1, .inl (G.2 1, 3, .inl (fun i => g (6 + i)))), (q.2.2.1, .inl (G.2 3, 4, .inr (.inr (.inr (.inr (fun p => some (q.2.2.2 p).1))))))] ++ ((bdsW G a.2.2.2 (zCp b d (w0 + 1))) ++ (bdsW G q.2.2.2 d))) := by rw [← zCp_up]; exact hM
      refine lv_iinc (v := nI (w0 + 1)) (lv' := [(2, .int (nI (w0 + 1))), (0, .ref a.1), (1, .ref q.1)]) hx hb dX2_copyFrom_36 hl (k := 2) rfl (nI_1 w0) (by decide) rfl (fun ls hl => ?_)
      refine lv_goto (tgt := 16) hx hb dX2_copyFrom_39 (by decide) ?_
      exact ih (w0 + 1) (by omega) _ _ hM _ (lv_sub hl [1, 2, 0] rfl)
  exact lp16 4 0 rfl _ _ hM _ (lv_sub hl [1, 2, 0] rfl)

set_option maxHeartbeats 4000000 in
set_option maxRecDepth 100000 in
theorem c_gmDeal (l : Launch) (G : zC) (a : zGA) (h : Nat → Int32) (b : Nat → Nat → Int32) (q : Nat) (x : Int64) (n : Nat) (hn : n ≤ 4) : zMet l G yX2_deal wsX2_deal rmX2_deal [.ref a.1, .int (nI n), .ref q] (gmW G a h b ++ drW q x) none (gmW G a (zGdH h n) (zGd n x b).2 ++ drW q (zGd n x b).1) := by
  refine zMet_of (cc := cX2_deal) (maxL := 4) (ret := none) (by decide) rfl (Nat.le_of_ble_eq_true rfl) ?_
  intro p e s m below meth c A ls hx hb hr hml hown hts hK hA hE hlocks hin hM hl
  have hown : s.vm.findClass RX2 = some m.cls := hown
  have hl : lv_has ls 4 [(0, .ref a.1), (1, .int (nI n)), (2, .ref q)] := hl
  have hM : zM G A s s.heap [] ([(a.1, .inr (2, [.ref a.2.1, .ref a.2.2.1, .int (h 0), .int (h 1), .int (h 2), .int (h 3), .int (h 4), .int (h 5)])), (a.2.1, .inl (G.2 1, 3, .inl (fun i => h (6 + i)))), (a.2.2.1, .inl (G.2 3, 4, .inr (.inr (.inr (.inr (fun p => some (a.2.2.2 p).1)))))), (q, .inr (1, [.long x]))] ++ (bdsW G a.2.2.2 b)) := zM_perm (pm_cd (x := gmX G a h) (c := bdsW G a.2.2.2 b) (d := drW q x)) hM
  refine lv_aload_n hx hb dX2_deal_0 rfl (lv_at hl 0 rfl) ?_
  refine lv_iload_n hx hb dX2_deal_1 rfl (lv_at hl 1 rfl) ?_
  refine z_put (ci := 2) (ty := .int) (v := .int (nI n)) (C := RX2) (T := TX2) (N := 8) (ws' := [(a.1, .inr (2, [.ref a.2.1, .ref a.2.2.1, .int (nI n), .int (h 1), .int (h 2), .int (h 3), .int (h 4), .int (h 5)])), (a.2.1, .inl (G.2 1, 3, .inl (fun i => h (6 + i)))), (a.2.2.1, .inl (G.2 3, 4, .inr (.inr (.inr (.inr (fun p => some (a.2.2.2 p).1)))))), (q, .inr (1, [.long x]))] ++ (bdsW G a.2.2.2 b)) hx hb hts (by decide +kernel) tyX2 tyX2_ok nmX2 hown hK hM 0 rfl rfl 2 (by decide) (hts (.fieldLink RX2 39 "ShiftIsles$Game" "players" "I") (by decide +kernel)) (fun _ h9 => h9) rfl (by decide +kernel) rfl rfl (Nat.le_of_ble_eq_true rfl) dX2_deal_2 rfl (fun H locs hM => ?_)
  refine lv_aload_n hx hb dX2_deal_5 rfl (lv_at hl 0 rfl) ?_
  refine lv_iconst (v := 0) hx hb dX2_deal_6 (by decide) ?_
  refine z_put (ci := 2) (ty := .int) (v := .int 0) (C := RX2) (T := TX2) (N := 8) (ws' := [(a.1, .inr (2, [.ref a.2.1, .ref a.2.2.1, .int (nI n), .int 0, .int (h 2), .int (h 3), .int (h 4), .int (h 5)])), (a.2.1, .inl (G.2 1, 3, .inl (fun i => h (6 + i)))), (a.2.2.1, .inl (G.2 3, 4, .inr (.inr (.inr (.inr (fun p => some (a.2.2.2 p).1)))))), (q, .inr (1, [.long x]))] ++ (bdsW G a.2.2.2 b)) hx hb hts (by decide +kernel) tyX2 tyX2_ok nmX2 hown hK hM 0 rfl rfl 3 (by decide) (hts (.fieldLink RX2 42 "ShiftIsles$Game" "turn" "I") (by decide +kernel)) (fun _ h9 => h9) rfl (by decide +kernel) rfl rfl (Nat.le_of_ble_eq_true rfl) dX2_deal_7 rfl (fun H locs hM => ?_)
  refine lv_aload_n hx hb dX2_deal_10 rfl (lv_at hl 0 rfl) ?_
  refine lv_iconst (v := 0) hx hb dX2_deal_11 (by decide) ?_
  refine z_put (ci := 2) (ty := .boolean) (v := .int 0) (C := RX2) (T := TX2) (N := 8) (ws' := [(a.1, .inr (2, [.ref a.2.1, .ref a.2.2.1, .int (nI n), .int 0, .int 0, .int (h 3), .int (h 4), .int (h 5)])), (a.2.1, .inl (G.2 1, 3, .inl (fun i => h (6 + i)))), (a.2.2.1, .inl (G.2 3, 4, .inr (.inr (.inr (.inr (fun p => some (a.2.2.2 p).1)))))), (q, .inr (1, [.long x]))] ++ (bdsW G a.2.2.2 b)) hx hb hts (by decide +kernel) tyX2 tyX2_ok nmX2 hown hK hM 0 rfl rfl 4 (by decide) (hts (.fieldLink RX2 45 "ShiftIsles$Game" "shifted" "Z") (by decide +kernel)) (fun _ h9 => h9) rfl (by decide +kernel) rfl rfl (Nat.le_of_ble_eq_true rfl) dX2_deal_12 rfl (fun H locs hM => ?_)
  refine lv_aload_n hx hb dX2_deal_15 rfl (lv_at hl 0 rfl) ?_
  refine lv_iconst (v := 0) hx hb dX2_deal_16 (by decide) ?_
  refine z_put (ci := 2) (ty := .int) (v := .int 0) (C := RX2) (T := TX2) (N := 8) (ws' := [(a.1, .inr (2, [.ref a.2.1, .ref a.2.2.1, .int (nI n), .int 0, .int 0, .int 0, .int (h 4), .int (h 5)])), (a.2.1, .inl (G.2 1, 3, .inl (fun i => h (6 + i)))), (a.2.2.1, .inl (G.2 3, 4, .inr (.inr (.inr (.inr (fun p => some (a.2.2.2 p).1)))))), (q, .inr (1, [.long x]))] ++ (bdsW G a.2.2.2 b)) hx hb hts (by decide +kernel) tyX2 tyX2_ok nmX2 hown hK hM 0 rfl rfl 5 (by decide) (hts (.fieldLink RX2 49 "ShiftIsles$Game" "ended" "I") (by decide +kernel)) (fun _ h9 => h9) rfl (by decide +kernel) rfl rfl (Nat.le_of_ble_eq_true rfl) dX2_deal_17 rfl (fun H locs hM => ?_)
  refine lv_aload_n hx hb dX2_deal_20 rfl (lv_at hl 0 rfl) ?_
  refine lv_iconst (v := 0) hx hb dX2_deal_21 (by decide) ?_
  refine z_put (ci := 2) (ty := .boolean) (v := .int 0) (C := RX2) (T := TX2) (N := 8) (ws' := [(a.1, .inr (2, [.ref a.2.1, .ref a.2.2.1, .int (nI n), .int 0, .int 0, .int 0, .int 0, .int (h 5)])), (a.2.1, .inl (G.2 1, 3, .inl (fun i => h (6 + i)))), (a.2.2.1, .inl (G.2 3, 4, .inr (.inr (.inr (.inr (fun p => some (a.2.2.2 p).1)))))), (q, .inr (1, [.long x]))] ++ (bdsW G a.2.2.2 b)) hx hb hts (by decide +kernel) tyX2 tyX2_ok nmX2 hown hK hM 0 rfl rfl 6 (by decide) (hts (.fieldLink RX2 52 "ShiftIsles$Game" "over" "Z") (by decide +kernel)) (fun _ h9 => h9) rfl (by decide +kernel) rfl rfl (Nat.le_of_ble_eq_true rfl) dX2_deal_22 rfl (fun H locs hM => ?_)
  refine lv_aload_n hx hb dX2_deal_25 rfl (lv_at hl 0 rfl) ?_
  refine lv_iconst (v := (-1)) hx hb dX2_deal_26 (by decide) ?_
  refine z_put (ci := 2) (ty := .int) (v := .int (-1)) (C := RX2) (T := TX2) (N := 8) (ws' := [(a.1, .inr (2, [.ref a.2.1, .ref a.2.2.1, .int (nI n), .int 0, .int 0, .int 0, .int 0, .int (-1)])), (a.2.1, .inl (G.2 1, 3, .inl (fun i => h (6 + i)))), (a.2.2.1, .inl (G.2 3, 4, .inr (.inr (.inr (.inr (fun p => some (a.2.2.2 p).1)))))), (q, .inr (1, [.long x]))] ++ (bdsW G a.2.2.2 b)) hx hb hts (by decide +kernel) tyX2 tyX2_ok nmX2 hown hK hM 0 rfl rfl 7 (by decide) (hts (.fieldLink RX2 31 "ShiftIsles$Game" "winner" "I") (by decide +kernel)) (fun _ h9 => h9) rfl (by decide +kernel) rfl rfl (Nat.le_of_ble_eq_true rfl) dX2_deal_27 rfl (fun H locs hM => ?_)
  refine lv_iconst (v := nI 0) hx hb dX2_deal_30 (by decide) ?_
  refine lv_istore_n (lv' := [(3, .int (nI 0)), (0, .ref a.1), (1, .int (nI n)), (2, .ref q)]) hx hb dX2_deal_31 rfl hl (by decide) rfl (fun ls hl => ?_)
  have lp32 : ∀ (k : Nat) (i : Nat) (y : Int64) (d : Nat → Nat → Int32), (i + k = n) → (zGd n x b = zIt zSg k i (y, d)) → ∀ (H : Heap) (locs : List Loc), zM G A s H locs ([(a.1, .inr (2, [.ref a.2.1, .ref a.2.2.1, .int (nI n), .int 0, .int 0, .int 0, .int 0, .int (-1)])), (a.2.1, .inl (G.2 1, 3, .inl (fun i => h (6 + i)))), (a.2.2.1, .inl (G.2 3, 4, .inr (.inr (.inr (.inr (fun p => some (a.2.2.2 p).1)))))), (q, .inr (1, [.long y]))] ++ (bdsW G a.2.2.2 d)) → ∀ ls : Array Slot, lv_has ls 4 [(0, .ref a.1), (1, .int (nI n)), (2, .ref q), (3, .int (nI i))] → W p l e rmX2_deal s m ([.ref a.1, .int (nI n), .ref q] : List Value).toArray below meth c H locs 0 0 (zEnd G below ([.ref a.1, .int (nI n), .ref q] : List Value).toArray s rmX2_deal A none (gmW G a (zGdH h n) (zGd n x b).2 ++ drW q (zGd n x b).1)) (F0 m 32 ls []) := by
    intro k
    induction k with
    | zero =>
      intro i y d hik hR H locs hM ls hl
      have e9 : zGd n x b = (y, d) := by rw [hR, zIt_0]
      refine lv_iload_n hx hb dX2_deal_32 rfl (lv_at hl 3 rfl) ?_
      refine lv_iconst (v := nI 4) hx hb dX2_deal_33 (by decide) ?_
      refine lv_icmp_ge (tgt := 58) hx hb dX2_deal_34 (by decide) (fun c_1 => ?_) (fun c_1 => ?_)
      · skip
        exact z_vret hx hb hr hlocks dX2_deal_58 (by rw [e9]; exact zM_sim (zSim_app (gm_fold (H := zGdH h n) rfl rfl rfl rfl rfl rfl (fun i hi => by simp only [zGdH]; rw [pk_un (by omega), pk_un (by omega), pk_un (by omega), pk_un (by omega), pk_un (by omega), pk_un (by omega)])) (zSim_rf (drW q y))) (zM_perm (pm_cd (x := [(a.1, .inr (2, [.ref a.2.1, .ref a.2.2.1, .int (nI n), .int 0, .int 0, .int 0, .int 0, .int (-1)])), (a.2.1, .inl (G.2 1, 3, .inl (fun i => h (6 + i)))), (a.2.2.1, .inl (G.2 3, 4, .inr (.inr (.inr (.inr (fun p => some (a.2.2.2 p).1))))))]) (c := bdsW G a.2.2.2 d) (d := drW q y)).symm hM)) (Nat.le_of_ble_eq_true rfl) (Nat.le_of_ble_eq_true rfl)
      · skip
        refine lv_iload_n hx hb dX2_deal_37 rfl (lv_at hl 3 rfl) ?_
        refine lv_iload_n hx hb dX2_deal_38 rfl (lv_at hl 1 rfl) ?_
        refine lv_icmp_ge (tgt := 58) hx hb dX2_deal_39 (by decide) (fun c_2 => ?_) (fun c_2 => absurd (nI_le (by omega) (by omega)) c_2)
        exact z_vret hx hb hr hlocks dX2_deal_58 (by rw [e9]; exact zM_sim (zSim_app (gm_fold (H := zGdH h n) rfl rfl rfl rfl rfl rfl (fun i hi => by simp only [zGdH]; rw [pk_un (by omega), pk_un (by omega), pk_un (by omega), pk_un (by omega), pk_un (by omega), pk_un (by omega)])) (zSim_rf (drW q y))) (zM_perm (pm_cd (x := [(a.1, .inr (2, [.ref a.2.1, .ref a.2.2.1, .int (nI n), .int 0, .int 0, .int 0, .int 0, .int (-1)])), (a.2.1, .inl (G.2 1, 3, .inl (fun i => h (6 + i)))), (a.2.2.1, .inl (G.2 3, 4, .inr (.inr (.inr (.inr (fun p => some (a.2.2.2 p).1))))))]) (c := bdsW G a.2.2.2 d) (d := drW q y)).symm hM)) (Nat.le_of_ble_eq_true rfl) (Nat.le_of_ble_eq_true rfl)
    | succ k ih =>
      intro i y d hik hR H locs hM ls hl
      refine lv_iload_n hx hb dX2_deal_32 rfl (lv_at hl 3 rfl) ?_
      refine lv_iconst (v := nI 4) hx hb dX2_deal_33 (by decide) ?_
      refine lv_icmp_ge (tgt := 58) hx hb dX2_deal_34 (by decide) (fun c_3 => absurd c_3 (nI_ge (by omega) (by decide))) (fun c_3 => ?_)
      refine lv_iload_n hx hb dX2_deal_37 rfl (lv_at hl 3 rfl) ?_
      refine lv_iload_n hx hb dX2_deal_38 rfl (lv_at hl 1 rfl) ?_
      refine lv_icmp_ge (tgt := 58) hx hb dX2_deal_39 (by decide) (fun c_4 => absurd c_4 (nI_ge (by omega) (by omega))) (fun c_4 => ?_)
      refine lv_aload_n hx hb dX2_deal_42 rfl (lv_at hl 0 rfl) ?_
      refine z_get (ci := 2) (v := .ref a.2.2.1) (C := RX2) (T := TX2) (N := 8) hx hb hts (by decide +kernel) hown hK hM 0 rfl rfl 1 (by decide) (hts (.fieldLink RX2 26 "ShiftIsles$Game" "boards" "[LShiftIsles$Board;") (by decide +kernel)) (fun _ h9 => h9) rfl dX2_deal_43 ?_
      refine lv_iload_n hx hb dX2_deal_46 rfl (lv_at hl 3 rfl) ?_
      refine z_aald hx hb hK hM 2 3 rfl rfl (v := (a.2.2.2 i).1) (vp_in_nI (by omega) (by decide)) (by rw [nI_clamp (by omega)]) dX2_deal_47 ?_
      refine lv_aload_n hx hb dX2_deal_48 rfl (lv_at hl 2 rfl) ?_
      have hi4 : i < 4 := by omega
      have hp9 : List.Perm ([(a.1, .inr (2, [.ref a.2.1, .ref a.2.2.1, .int (nI n), .int 0, .int 0, .int 0, .int 0, .int (-1)])), (a.2.1, .inl (G.2 1, 3, .inl (fun i => h (6 + i)))), (a.2.2.1, .inl (G.2 3, 4, .inr (.inr (.inr (.inr (fun p => some (a.2.2.2 p).1)))))), (q, .inr (1, [.long y]))] ++ (bdsW G a.2.2.2 d) : va_W) ((bdW G (a.2.2.2 i) (d i) ++ drW q y) ++ ([(a.1, .inr (2, [.ref a.2.1, .ref a.2.2.1, .int (nI n), .int 0, .int 0, .int 0, .int 0, .int (-1)])), (a.2.1, .inl (G.2 1, 3, .inl (fun i => h (6 + i)))), (a.2.2.1, .inl (G.2 3, 4, .inr (.inr (.inr (.inr (fun p => some (a.2.2.2 p).1))))))] ++ bdsR G a.2.2.2 d i)) := pm_dl (x := [(a.1, .inr (2, [.ref a.2.1, .ref a.2.2.1, .int (nI n), .int 0, .int 0, .int 0, .int 0, .int (-1)])), (a.2.1, .inl (G.2 1, 3, .inl (fun i => h (6 + i)))), (a.2.2.1, .inl (G.2 3, 4, .inr (.inr (.inr (.inr (fun p => some (a.2.2.2 p).1))))))]) (d := drW q y) (bds_pm hi4)
      have hq9 : List.Perm ((bdW G (a.2.2.2 i) (zDl (d i) y) ++ drW q (zDx (d i) y)) ++ ([(a.1, .inr (2, [.ref a.2.1, .ref a.2.2.1, .int (nI n), .int 0, .int 0, .int 0, .int 0, .int (-1)])), (a.2.1, .inl (G.2 1, 3, .inl (fun i => h (6 + i)))), (a.2.2.1, .inl (G.2 3, 4, .inr (.inr (.inr (.inr (fun p => some (a.2.2.2 p).1))))))] ++ bdsR G a.2.2.2 d i)) ([(a.1, .inr (2, [.ref a.2.1, .ref a.2.2.1, .int (nI n), .int 0, .int 0, .int 0, .int 0, .int (-1)])), (a.2.1, .inl (G.2 1, 3, .inl (fun i => h (6 + i)))), (a.2.2.1, .inl (G.2 3, 4, .inr (.inr (.inr (.inr (fun p => some (a.2.2.2 p).1)))))), (q, .inr (1, [.long (zDx (d i) y)]))] ++ (bdsW G a.2.2.2 (va_up d i (zDl (d i) y))) : va_W) := pm_du (x := [(a.1, .inr (2, [.ref a.2.1, .ref a.2.2.1, .int (nI n), .int 0, .int 0, .int 0, .int 0, .int (-1)])), (a.2.1, .inl (G.2 1, 3, .inl (fun i => h (6 + i)))), (a.2.2.1, .inl (G.2 3, 4, .inr (.inr (.inr (.inr (fun p => some (a.2.2.2 p).1))))))]) (d := drW q (zDx (d i) y)) (bds_pu hi4)
      refine z_callV (As := [.ref q]) (rest := []) (wc := bdW G (a.2.2.2 i) (d i) ++ drW q y) (wr := [(a.1, .inr (2, [.ref a.2.1, .ref a.2.2.1, .int (nI n), .int 0, .int 0, .int 0, .int 0, .int (-1)])), (a.2.1, .inl (G.2 1, 3, .inl (fun i => h (6 + i)))), (a.2.2.1, .inl (G.2 3, 4, .inr (.inr (.inr (.inr (fun p => some (a.2.2.2 p).1))))))] ++ bdsR G a.2.2.2 d i) (w1 := bdW G (a.2.2.2 i) (zDl (d i) y) ++ drW q (zDx (d i) y)) (ws' := [(a.1, .inr (2, [.ref a.2.1, .ref a.2.2.1, .int (nI n), .int 0, .int 0, .int 0, .int 0, .int (-1)])), (a.2.1, .inl (G.2 1, 3, .inl (fun i => h (6 + i)))), (a.2.2.1, .inl (G.2 3, 4, .inr (.inr (.inr (.inr (fun p => some (a.2.2.2 p).1)))))), (q, .inr (1, [.long (zDx (d i) y)]))] ++ (bdsW G a.2.2.2 (va_up d i (zDl (d i) y)))) ⟨hx, hb, hml, hown, hts⟩ (c_bdDeal l G (a.2.2.2 i) (d i) q y) (cwV 1 hts gX2_deal_X0_deal rfl rfl rfl (by decide +kernel) ⟨Nat.le_of_ble_eq_true rfl, Nat.le_of_ble_eq_true rfl⟩) 0 rfl rfl rfl rfl hl.1 rfl (Nat.le_of_ble_eq_true rfl) dX2_deal_49 ⟨Nat.le_of_ble_eq_true rfl, Nat.le_of_ble_eq_true rfl⟩ hK hE hA hM hp9 hq9 (fun H locs hM hz => ?_)
      refine lv_iinc (v := nI (i + 1)) (lv' := [(3, .int (nI (i + 1))), (0, .ref a.1), (1, .int (nI n)), (2, .ref q)]) hx hb dX2_deal_52 hl (k := 3) rfl (nI_1 i) (by decide) rfl (fun ls hl => ?_)
      refine lv_goto (tgt := 32) hx hb dX2_deal_55 (by decide) ?_
      exact ih (i + 1) (zDx (d i) y) (va_up d i (zDl (d i) y)) (by omega) (by rw [hR, zIt_s, zSg_e]) _ _ hM _ (lv_sub hl [1, 2, 3, 0] rfl)
  exact lp32 n 0 x b (by omega) (zGd_e n x b) _ _ hM _ (lv_sub hl [1, 2, 3, 0] rfl)

set_option maxHeartbeats 4000000 in
set_option maxRecDepth 100000 in
theorem c_reset (l : Launch) (G : zC) (a : zGA) (h : Nat → Int32) (b : Nat → Nat → Int32) : zMet l G yX2_resetSettings wsX2_resetSettings rmX2_resetSettings [.ref a.1] (gmW G a h b) none (gmW G a (zReH h) b) := by
  refine zMet_of (cc := cX2_resetSettings) (maxL := 1) (ret := none) (by decide) rfl (Nat.le_of_ble_eq_true rfl) ?_
  intro p e s m below meth c A ls hx hb hr hml hown hts hK hA hE hlocks hin hM hl
  have hown : s.vm.findClass RX2 = some m.cls := hown
  have hM : zM G A s s.heap [] ([(a.1, .inr (2, [.ref a.2.1, .ref a.2.2.1, .int (h 0), .int (h 1), .int (h 2), .int (h 3), .int (h 4), .int (h 5)])), (a.2.1, .inl (G.2 1, 3, .inl (fun i => h (6 + i)))), (a.2.2.1, .inl (G.2 3, 4, .inr (.inr (.inr (.inr (fun p => some (a.2.2.2 p).1))))))] ++ (bdsW G a.2.2.2 b)) := hM
  have hl : lv_has ls 1 [(0, .ref a.1)] := hl
  obtain ⟨t0, hZ0, hT0⟩ := hE.2.1.1
  refine va_getsN hx hb hZ0 hM.2.2 hown (va_Nw.use rfl hE.1.2.1) (fun _ h9 => h9) dX2_resetSettings_0 ?_
  refine lv_iconst (v := 0) hx hb dX2_resetSettings_3 (by decide) ?_
  refine lv_aload_n hx hb dX2_resetSettings_4 rfl (lv_at hl 0 rfl) ?_
  refine z_get (ci := 2) (v := .ref a.2.1) (C := RX2) (T := TX2) (N := 8) hx hb hts (by decide +kernel) hown hK hM 0 rfl rfl 0 (by decide) (hts (.fieldLink RX2 9 "ShiftIsles$Game" "settings" "[I") (by decide +kernel)) (fun _ h9 => h9) rfl dX2_resetSettings_5 ?_
  refine lv_iconst (v := 0) hx hb dX2_resetSettings_8 (by decide) ?_
  refine lv_iconst (v := nI 3) hx hb dX2_resetSettings_9 (by decide) ?_
  refine z_copyT (ws' := [(a.1, .inr (2, [.ref a.2.1, .ref a.2.2.1, .int (h 0), .int (h 1), .int (h 2), .int (h 3), .int (h 4), .int (h 5)])), (a.2.1, .inl (G.2 1, 3, .inl (va_cpy zFirst (fun i => h (6 + i)) 0 0 3))), (a.2.2.1, .inl (G.2 3, 4, .inr (.inr (.inr (.inr (fun p => some (a.2.2.2 p).1))))))] ++ (bdsW G a.2.2.2 b)) (k := 3) hx hb (hml.trans hl.1.symm) hown (hts (.methodLink RX2 18 arraycopyName) (by decide +kernel)) (hts (.native arraycopyName) (by decide +kernel)) (hts (.static arraycopyName) (by decide +kernel)) (hts (.initialized "java/lang/System") (by decide +kernel)) hK hM hT0 1 rfl (by decide) (by decide) (by decide) (Nat.le_of_ble_eq_true rfl) (by decide) dX2_resetSettings_10 rfl (fun H locs hM => ?_)
  exact z_vret hx hb hr hlocks dX2_resetSettings_13 (zM_sim (gm_fold (H := zReH h) rfl rfl rfl rfl rfl rfl (fun i hi => (cpy_at hi).trans (zReH_s h hi).symm)) hM) (Nat.le_of_ble_eq_true rfl) (Nat.le_of_ble_eq_true rfl)
section ZU
variable {p : Program} {l : Launch} {e : Env} {R : Room} {s : State} {m : MethodId} {args : Array Value} {below : List Frame} {meth : Method} {c : Code} {H : Heap} {locs : List Loc} {cells slots : Nat} {Q : State → Prop}
variable {cc : ByteArray} {pc : Nat} {ls : Array Slot} {rest : List Value} {G : zC} {A : Nat → Prop} {ws ws' : va_W} {a : Nat}
theorem zNar {q : Nat} (hq : q < 65536) : vp_nar .char (nI q) = nI q := by
  unfold vp_nar
  rw [(pk_charN hq).1]
theorem z_cast (hexec : p.tables.exec = Jvm.exec) (hb : c.code = cc) (hK : va_K G.1 vwCl (zT G) s) (hM : zM G A s H locs ws) (q0 : Nat) {n : Nat} {f : Nat → Int32} (ha : ws[q0]? = some (a, .inl (G.2 0, n, .inl f))) {i : Int32} {q : Nat} (hq : q < 65536) (hin : vp_in i n) (hdg : decode cc pc = .ok (.castore, 1))
    (hw : ws.set q0 (a, .inl (G.2 0, n, .inl (upd f i.toNatClampNeg (nI q)))) = ws') (kk : ∀ (H1 : Heap) (locs1 : List Loc), zM G A s H1 locs1 ws' → W p l e R s m args below meth c H1 locs1 cells slots Q (F0 m (pc + 1) ls rest)) : W p l e R s m args below meth c H locs cells slots Q (F0 m pc ls (.int (nI q) :: .int i :: .ref a :: rest)) :=
  va_cast hexec hb hK hM.1 hM.2.1 hM.2.2 q0 0 ha rfl hin hdg (fun H1 locs1 h1 h2 h3 => kk H1 locs1 (by rw [zNar hq] at h1 h2; exact hw ▸ ⟨h1, h2, h3⟩))
end ZU
abbrev txW (G : zC) (q z n : Nat) (u : Nat → Int32) : va_W := [(q, .inr (5, [.ref z, .int (nI n)])), (z, .inl (G.2 0, 120, .inl u))]
def zTu (u : Nat → Int32) : Prop := ∀ i, i < 120 → ∃ k, k < 256 ∧ u i = nI k
def zSa (u : Nat → Int32) (n j : Nat) : Int32 := if j < n then u j else 0
theorem zSa_nar {u : Nat → Int32} {n j : Nat} (hu : zTu u) (hn : n ≤ 120) : narrow .char (.int (zSa u n j)) = .int (zSa u n j) := by
  unfold zSa
  split
  · obtain ⟨k, hk, e⟩ := hu j (by omega)
    rw [e]
    exact (pk_charN (by omega)).1
  · rfl
def zIm (k : Int32) : Bool := decide (k = 115) || (decide (k = 103) || decide (k = 108))
def zDl9 (k : Int32) : Int32 := if k = 115 then 5 else if k = 103 then 8 else if k = 108 then 9 else -1
def zDu (d k : Int32) : Int32 :=
  if d = 0 then (if k = 73 then 1 else -1)
  else if d = 1 then (if k < 50 then -1 else if 52 < k then -1 else 2)
  else if d = 2 then (if k < 48 then -1 else if 57 < k then -1 else 3)
  else if d = 3 then (if k < 48 then -1 else if 57 < k then -1 else 4)
  else if d = 4 then zDl9 k
  else if d = 5 then (if k < 48 then -1 else if 51 < k then -1 else 6)
  else if d = 6 then (if k < 48 then -1 else if 53 < k then -1 else 7)
  else if d = 7 then (if k = 43 then 4 else if k = 45 then 4 else -1)
  else if d = 8 then (if k < 48 then -1 else if 56 < k then -1 else 4)
  else if d = 9 then (if k < 48 then -1 else if 53 < k then -1 else 4)
  else -1
def zWr (u : Nat → Int32) (n : Nat) : Nat → Nat → Int32 → Int32
  | 0, _, d => if d = 4 then -1 else nI n
  | k + 1, i, d => if zDu d (zSa u n i) = -1 then nI i else zWr u n k (i + 1) (zDu d (zSa u n i))
set_option maxHeartbeats 4000000 in
set_option maxRecDepth 100000 in
theorem c_isFull (l : Launch) (G : zC) (q z n : Nat) (u : Nat → Int32) (hn : n ≤ 120) : zMet l G yX5_isFull wsX5_isFull rmX5_isFull [.ref q] (txW G q z n u) (some (.int (zb (decide (120 ≤ n))))) (txW G q z n u) := by
  refine zMet_of (cc := cX5_isFull) (maxL := 1) (ret := (some .boolean)) (by decide) rfl (Nat.le_of_ble_eq_true rfl) ?_
  intro p e s m below meth c A ls hx hb hr hml hown hts hK hA hE hlocks hin hM hl
  have hown : s.vm.findClass RX5 = some m.cls := hown
  have hM : zM G A s s.heap [] ([(q, .inr (5, [.ref z, .int (nI n)])), (z, .inl (G.2 0, 120, .inl u))]) := hM
  have hl : lv_has ls 1 [(0, .ref q)] := hl
  refine lv_aload_n hx hb dX5_isFull_0 rfl (lv_at hl 0 rfl) ?_
  refine z_get (ci := 5) (v := .int (nI n)) (C := RX5) (T := TX5) (N := 2) hx hb hts (by decide +kernel) hown hK hM 0 rfl rfl 1 (by decide) (hts (.fieldLink RX5 15 "ShiftIsles$Text" "length" "I") (by decide +kernel)) (fun _ h9 => h9) rfl dX5_isFull_1 ?_
  refine lv_bipush (v := nI 120) hx hb dX5_isFull_4 (by decide) ?_
  refine lv_icmp_lt (tgt := 13) hx hb dX5_isFull_6 (by decide) (fun c_f => ?_) (fun c_f => ?_)
  · skip
    refine lv_iconst (v := nI 0) hx hb dX5_isFull_13 (by decide) ?_
    exact z_zret hx hb hr hlocks dX5_isFull_14 hM (Nat.le_of_ble_eq_true rfl) (Nat.le_of_ble_eq_true rfl) (by first | exact Or.inl rfl | exact Or.inr rfl | exact zb_01 _) (by rw [decide_eq_false (fun q => absurd c_f (nI_nlt q (by omega)))]; rfl)
  · skip
    refine lv_iconst (v := nI 1) hx hb dX5_isFull_9 (by decide) ?_
    refine lv_goto (tgt := 14) hx hb dX5_isFull_10 (by decide) ?_
    exact z_zret hx hb hr hlocks dX5_isFull_14 hM (Nat.le_of_ble_eq_true rfl) (Nat.le_of_ble_eq_true rfl) (by first | exact Or.inl rfl | exact Or.inr rfl | exact zb_01 _) (by rw [decide_eq_true (Nat.not_lt.mp (fun q => c_f (nI_lt q (by decide))))]; rfl)

set_option maxHeartbeats 4000000 in
set_option maxRecDepth 100000 in
theorem c_txAdd (l : Launch) (G : zC) (q z n : Nat) (u : Nat → Int32) (k : Nat) (hn : n < 120) (hk : k < 65536) : zMet l G yX5_add wsX5_add rmX5_add [.ref q, .int (nI k)] (txW G q z n u) (some (.int (nI (n + 1)))) (txW G q z (n + 1) (upd u n (nI k))) := by
  refine zMet_of (cc := cX5_add) (maxL := 2) (ret := (some .int)) (by decide) rfl (Nat.le_of_ble_eq_true rfl) ?_
  intro p e s m below meth c A ls hx hb hr hml hown hts hK hA hE hlocks hin hM hl
  have hown : s.vm.findClass RX5 = some m.cls := hown
  have hM : zM G A s s.heap [] ([(q, .inr (5, [.ref z, .int (nI n)])), (z, .inl (G.2 0, 120, .inl u))]) := hM
  have hl : lv_has ls 2 [(0, .ref q), (1, .int (nI k))] := hl
  refine lv_aload_n hx hb dX5_add_0 rfl (lv_at hl 0 rfl) ?_
  refine z_get (ci := 5) (v := .int (nI n)) (C := RX5) (T := TX5) (N := 2) hx hb hts (by decide +kernel) hown hK hM 0 rfl rfl 1 (by decide) (hts (.fieldLink RX5 15 "ShiftIsles$Text" "length" "I") (by decide +kernel)) (fun _ h9 => h9) rfl dX5_add_1 ?_
  refine lv_if_lt (tgt := 36) hx hb dX5_add_4 (by decide) (fun c_1 => absurd c_1 (nI_pos (by omega))) (fun c_1 => ?_)
  refine lv_aload_n hx hb dX5_add_7 rfl (lv_at hl 0 rfl) ?_
  refine z_get (ci := 5) (v := .int (nI n)) (C := RX5) (T := TX5) (N := 2) hx hb hts (by decide +kernel) hown hK hM 0 rfl rfl 1 (by decide) (hts (.fieldLink RX5 15 "ShiftIsles$Text" "length" "I") (by decide +kernel)) (fun _ h9 => h9) rfl dX5_add_8 ?_
  refine lv_bipush (v := nI 120) hx hb dX5_add_11 (by decide) ?_
  refine lv_icmp_ge (tgt := 36) hx hb dX5_add_13 (by decide) (fun c_2 => absurd c_2 (nI_ge hn (by decide))) (fun c_2 => ?_)
  refine lv_aload_n hx hb dX5_add_16 rfl (lv_at hl 0 rfl) ?_
  refine z_get (ci := 5) (v := .ref z) (C := RX5) (T := TX5) (N := 2) hx hb hts (by decide +kernel) hown hK hM 0 rfl rfl 0 (by decide) (hts (.fieldLink RX5 9 "ShiftIsles$Text" "signs" "[C") (by decide +kernel)) (fun _ h9 => h9) rfl dX5_add_17 ?_
  refine lv_aload_n hx hb dX5_add_20 rfl (lv_at hl 0 rfl) ?_
  refine z_get (ci := 5) (v := .int (nI n)) (C := RX5) (T := TX5) (N := 2) hx hb hts (by decide +kernel) hown hK hM 0 rfl rfl 1 (by decide) (hts (.fieldLink RX5 15 "ShiftIsles$Text" "length" "I") (by decide +kernel)) (fun _ h9 => h9) rfl dX5_add_21 ?_
  refine lv_iload_n hx hb dX5_add_24 rfl (lv_at hl 1 rfl) ?_
  refine z_cast (ws' := [(q, .inr (5, [.ref z, .int (nI n)])), (z, .inl (G.2 0, 120, .inl (upd u n (nI k))))]) hx hb hK hM 1 rfl hk (vp_in_nI (by omega) (by decide)) dX5_add_25 (by rw [nI_clamp (by omega)]; rfl) (fun H locs hM => ?_)
  refine lv_aload_n hx hb dX5_add_26 rfl (lv_at hl 0 rfl) ?_
  refine lv_dup hx hb dX5_add_27 rfl ?_
  refine z_get (ci := 5) (v := .int (nI n)) (C := RX5) (T := TX5) (N := 2) hx hb hts (by decide +kernel) hown hK hM 0 rfl rfl 1 (by decide) (hts (.fieldLink RX5 15 "ShiftIsles$Text" "length" "I") (by decide +kernel)) (fun _ h9 => h9) rfl dX5_add_28 ?_
  refine lv_iconst (v := nI 1) hx hb dX5_add_31 (by decide) ?_
  refine lv_iadd hx hb dX5_add_32 ?_
  rw [nI_add n 1]
  refine z_put (ci := 5) (ty := .int) (v := .int (nI (n + 1))) (C := RX5) (T := TX5) (N := 2) (ws' := [(q, .inr (5, [.ref z, .int (nI (n + 1))])), (z, .inl (G.2 0, 120, .inl (upd u n (nI k))))]) hx hb hts (by decide +kernel) tyX5 tyX5_ok nmX5 hown hK hM 0 rfl rfl 1 (by decide) (hts (.fieldLink RX5 15 "ShiftIsles$Text" "length" "I") (by decide +kernel)) (fun _ h9 => h9) rfl (by decide +kernel) rfl rfl (Nat.le_of_ble_eq_true rfl) dX5_add_33 rfl (fun H locs hM => ?_)
  refine lv_aload_n hx hb dX5_add_36 rfl (lv_at hl 0 rfl) ?_
  refine z_get (ci := 5) (v := .int (nI (n + 1))) (C := RX5) (T := TX5) (N := 2) hx hb hts (by decide +kernel) hown hK hM 0 rfl rfl 1 (by decide) (hts (.fieldLink RX5 15 "ShiftIsles$Text" "length" "I") (by decide +kernel)) (fun _ h9 => h9) rfl dX5_add_37 ?_
  exact z_iret hx hb hr hlocks dX5_add_40 hM (Nat.le_of_ble_eq_true rfl) (Nat.le_of_ble_eq_true rfl) rfl

set_option maxHeartbeats 4000000 in
set_option maxRecDepth 100000 in
theorem c_txEmpty (l : Launch) (G : zC) (q z n : Nat) (u : Nat → Int32) : zMet l G yX5_empty wsX5_empty rmX5_empty [.ref q] (txW G q z n u) (some (.int (nI n))) (txW G q z 0 u) := by
  refine zMet_of (cc := cX5_empty) (maxL := 2) (ret := (some .int)) (by decide) rfl (Nat.le_of_ble_eq_true rfl) ?_
  intro p e s m below meth c A ls hx hb hr hml hown hts hK hA hE hlocks hin hM hl
  have hown : s.vm.findClass RX5 = some m.cls := hown
  have hM : zM G A s s.heap [] ([(q, .inr (5, [.ref z, .int (nI n)])), (z, .inl (G.2 0, 120, .inl u))]) := hM
  have hl : lv_has ls 2 [(0, .ref q)] := hl
  refine lv_aload_n hx hb dX5_empty_0 rfl (lv_at hl 0 rfl) ?_
  refine z_get (ci := 5) (v := .int (nI n)) (C := RX5) (T := TX5) (N := 2) hx hb hts (by decide +kernel) hown hK hM 0 rfl rfl 1 (by decide) (hts (.fieldLink RX5 15 "ShiftIsles$Text" "length" "I") (by decide +kernel)) (fun _ h9 => h9) rfl dX5_empty_1 ?_
  refine lv_istore_n (lv' := [(1, .int (nI n)), (0, .ref q)]) hx hb dX5_empty_4 rfl hl (by decide) rfl (fun ls hl => ?_)
  refine lv_aload_n hx hb dX5_empty_5 rfl (lv_at hl 1 rfl) ?_
  refine lv_iconst (v := nI 0) hx hb dX5_empty_6 (by decide) ?_
  refine z_put (ci := 5) (ty := .int) (v := .int (nI 0)) (C := RX5) (T := TX5) (N := 2) (ws' := [(q, .inr (5, [.ref z, .int (nI 0)])), (z, .inl (G.2 0, 120, .inl u))]) hx hb hts (by decide +kernel) tyX5 tyX5_ok nmX5 hown hK hM 0 rfl rfl 1 (by decide) (hts (.fieldLink RX5 15 "ShiftIsles$Text" "length" "I") (by decide +kernel)) (fun _ h9 => h9) rfl (by decide +kernel) rfl rfl (Nat.le_of_ble_eq_true rfl) dX5_empty_7 rfl (fun H locs hM => ?_)
  refine lv_iload_n hx hb dX5_empty_10 rfl (lv_at hl 0 rfl) ?_
  exact z_iret hx hb hr hlocks dX5_empty_11 hM (Nat.le_of_ble_eq_true rfl) (Nat.le_of_ble_eq_true rfl) rfl

set_option maxHeartbeats 4000000 in
set_option maxRecDepth 100000 in
theorem c_txLen (l : Launch) (G : zC) (q z n : Nat) (u : Nat → Int32) : zMet l G yX5_length wsX5_length rmX5_length [.ref q] (txW G q z n u) (some (.int (nI n))) (txW G q z n u) := by
  refine zMet_of (cc := cX5_length) (maxL := 1) (ret := (some .int)) (by decide) rfl (Nat.le_of_ble_eq_true rfl) ?_
  intro p e s m below meth c A ls hx hb hr hml hown hts hK hA hE hlocks hin hM hl
  have hown : s.vm.findClass RX5 = some m.cls := hown
  have hM : zM G A s s.heap [] ([(q, .inr (5, [.ref z, .int (nI n)])), (z, .inl (G.2 0, 120, .inl u))]) := hM
  have hl : lv_has ls 1 [(0, .ref q)] := hl
  refine lv_aload_n hx hb dX5_length_0 rfl (lv_at hl 0 rfl) ?_
  refine z_get (ci := 5) (v := .int (nI n)) (C := RX5) (T := TX5) (N := 2) hx hb hts (by decide +kernel) hown hK hM 0 rfl rfl 1 (by decide) (hts (.fieldLink RX5 15 "ShiftIsles$Text" "length" "I") (by decide +kernel)) (fun _ h9 => h9) rfl dX5_length_1 ?_
  exact z_iret hx hb hr hlocks dX5_length_4 hM (Nat.le_of_ble_eq_true rfl) (Nat.le_of_ble_eq_true rfl) rfl

set_option maxHeartbeats 4000000 in
set_option maxRecDepth 100000 in
theorem c_signAt (l : Launch) (G : zC) (q z n : Nat) (u : Nat → Int32) (j : Nat) (hj9 : j < 1000000) (hu : zTu u) (hn : n ≤ 120) : zMet l G yX5_signAt wsX5_signAt rmX5_signAt [.ref q, .int (nI j)] (txW G q z n u) (some (.int (zSa u n j))) (txW G q z n u) := by
  refine zMet_of (cc := cX5_signAt) (maxL := 2) (ret := (some .char)) (by decide) rfl (Nat.le_of_ble_eq_true rfl) ?_
  intro p e s m below meth c A ls hx hb hr hml hown hts hK hA hE hlocks hin hM hl
  have hown : s.vm.findClass RX5 = some m.cls := hown
  have hM : zM G A s s.heap [] ([(q, .inr (5, [.ref z, .int (nI n)])), (z, .inl (G.2 0, 120, .inl u))]) := hM
  have hl : lv_has ls 2 [(0, .ref q), (1, .int (nI j))] := hl
  refine lv_iload_n hx hb dX5_signAt_0 rfl (lv_at hl 1 rfl) ?_
  refine lv_if_lt (tgt := 27) hx hb dX5_signAt_1 (by decide) (fun c_1 => absurd c_1 (nI_pos (by omega))) (fun c_1 => ?_)
  refine lv_iload_n hx hb dX5_signAt_4 rfl (lv_at hl 1 rfl) ?_
  refine lv_aload_n hx hb dX5_signAt_5 rfl (lv_at hl 0 rfl) ?_
  refine z_get (ci := 5) (v := .int (nI n)) (C := RX5) (T := TX5) (N := 2) hx hb hts (by decide +kernel) hown hK hM 0 rfl rfl 1 (by decide) (hts (.fieldLink RX5 15 "ShiftIsles$Text" "length" "I") (by decide +kernel)) (fun _ h9 => h9) rfl dX5_signAt_6 ?_
  refine lv_icmp_ge (tgt := 27) hx hb dX5_signAt_9 (by decide) (fun c_j => ?_) (fun c_j => ?_)
  · have hj : ¬ j < n := Nat.not_lt.mpr ((nI_leI (by omega) (by omega)).mp c_j)
    refine lv_iconst (v := nI 0) hx hb dX5_signAt_27 (by decide) ?_
    exact z_cret hx hb hr hlocks dX5_signAt_28 hM (Nat.le_of_ble_eq_true rfl) (Nat.le_of_ble_eq_true rfl) rfl (by rw [zSa, if_neg hj]; rfl)
  · have hj : j < n := Nat.not_le.mp (fun q => c_j ((nI_leI (by omega) (by omega)).mpr q))
    refine lv_iload_n hx hb dX5_signAt_12 rfl (lv_at hl 1 rfl) ?_
    refine lv_bipush (v := nI 120) hx hb dX5_signAt_13 (by decide) ?_
    refine lv_icmp_ge (tgt := 27) hx hb dX5_signAt_15 (by decide) (fun c_2 => absurd c_2 (nI_ge (by omega) (by decide))) (fun c_2 => ?_)
    refine lv_aload_n hx hb dX5_signAt_18 rfl (lv_at hl 0 rfl) ?_
    refine z_get (ci := 5) (v := .ref z) (C := RX5) (T := TX5) (N := 2) hx hb hts (by decide +kernel) hown hK hM 0 rfl rfl 0 (by decide) (hts (.fieldLink RX5 9 "ShiftIsles$Text" "signs" "[C") (by decide +kernel)) (fun _ h9 => h9) rfl dX5_signAt_19 ?_
    refine lv_iload_n hx hb dX5_signAt_22 rfl (lv_at hl 1 rfl) ?_
    refine z_cald hx hb hK hM 1 rfl (v := u j) (vp_in_nI (by omega) (by decide)) (by rw [nI_clamp (by omega)]) dX5_signAt_23 ?_
    refine lv_goto (tgt := 28) hx hb dX5_signAt_24 (by decide) ?_
    exact z_cret hx hb hr hlocks dX5_signAt_28 hM (Nat.le_of_ble_eq_true rfl) (Nat.le_of_ble_eq_true rfl) (by have h9 := zSa_nar (j := j) hu hn; rw [zSa, if_pos hj] at h9; exact h9) (by rw [zSa, if_pos hj])

set_option maxHeartbeats 4000000 in
set_option maxRecDepth 100000 in
theorem c_digitAt (l : Launch) (G : zC) (q z n : Nat) (u : Nat → Int32) (j : Nat) (hj9 : j < 1000000) (hu : zTu u) (hn : n ≤ 120) : zMet l G yX5_digitAt wsX5_digitAt rmX5_digitAt [.ref q, .int (nI j)] (txW G q z n u) (some (.int (zSa u n j - 48))) (txW G q z n u) := by
  refine zMet_of (cc := cX5_digitAt) (maxL := 2) (ret := (some .int)) (by decide) rfl (Nat.le_of_ble_eq_true rfl) ?_
  intro p e s m below meth c A ls hx hb hr hml hown hts hK hA hE hlocks hin hM hl
  have hown : s.vm.findClass RX5 = some m.cls := hown
  have hM : zM G A s s.heap [] ([(q, .inr (5, [.ref z, .int (nI n)])), (z, .inl (G.2 0, 120, .inl u))]) := hM
  have hl : lv_has ls 2 [(0, .ref q), (1, .int (nI j))] := hl
  refine lv_aload_n hx hb dX5_digitAt_0 rfl (lv_at hl 0 rfl) ?_
  refine lv_iload_n hx hb dX5_digitAt_1 rfl (lv_at hl 1 rfl) ?_
  have hp9 : List.Perm ([(q, .inr (5, [.ref z, .int (nI n)])), (z, .inl (G.2 0, 120, .inl u))] : va_W) ((txW G q z n u) ++ ([])) := (pm_cut (cs := [[(q, .inr (5, [.ref z, .int (nI n)]))], [(z, .inl (G.2 0, 120, .inl u))]]) (sub := [[(q, .inr (5, [.ref z, .int (nI n)]))], [(z, .inl (G.2 0, 120, .inl u))]]) (rest := []) 2 [0, 1] [] rfl rfl rfl (by decide))
  have hq9 : List.Perm ((txW G q z n u) ++ ([])) ([(q, .inr (5, [.ref z, .int (nI n)])), (z, .inl (G.2 0, 120, .inl u))] : va_W) := (pm_put (cs := [[(q, .inr (5, [.ref z, .int (nI n)]))], [(z, .inl (G.2 0, 120, .inl u))]]) (sub := [[(q, .inr (5, [.ref z, .int (nI n)]))], [(z, .inl (G.2 0, 120, .inl u))]]) (rest := []) 2 [0, 1] [] rfl rfl rfl (by decide))
  refine z_callV (As := [.int (nI j)]) (rest := []) (wc := txW G q z n u) (wr := []) (w1 := txW G q z n u) (ws' := [(q, .inr (5, [.ref z, .int (nI n)])), (z, .inl (G.2 0, 120, .inl u))]) ⟨hx, hb, hml, hown, hts⟩ (c_signAt l G q z n u j (by omega) hu hn ) (cwV 1 hts gX5_digitAt_X5_signAt rfl rfl rfl (by decide +kernel) ⟨Nat.le_of_ble_eq_true rfl, Nat.le_of_ble_eq_true rfl⟩) 5 rfl rfl rfl rfl hl.1 rfl (Nat.le_of_ble_eq_true rfl) dX5_digitAt_2 ⟨Nat.le_of_ble_eq_true rfl, Nat.le_of_ble_eq_true rfl⟩ hK hE hA hM hp9 hq9 (fun H locs hM hz => ?_)
  refine lv_bipush (v := 48) hx hb dX5_digitAt_5 (by decide) ?_
  refine lv_isub hx hb dX5_digitAt_7 ?_
  exact z_iret hx hb hr hlocks dX5_digitAt_8 hM (Nat.le_of_ble_eq_true rfl) (Nat.le_of_ble_eq_true rfl) rfl

set_option maxHeartbeats 4000000 in
set_option maxRecDepth 100000 in
theorem c_txPlayers (l : Launch) (G : zC) (q z n : Nat) (u : Nat → Int32) (hu : zTu u) (hn : n ≤ 120) : zMet l G yX5_players wsX5_players rmX5_players [.ref q] (txW G q z n u) (some (.int (zSa u n 1 - 48))) (txW G q z n u) := by
  refine zMet_of (cc := cX5_players) (maxL := 1) (ret := (some .int)) (by decide) rfl (Nat.le_of_ble_eq_true rfl) ?_
  intro p e s m below meth c A ls hx hb hr hml hown hts hK hA hE hlocks hin hM hl
  have hown : s.vm.findClass RX5 = some m.cls := hown
  have hM : zM G A s s.heap [] ([(q, .inr (5, [.ref z, .int (nI n)])), (z, .inl (G.2 0, 120, .inl u))]) := hM
  have hl : lv_has ls 1 [(0, .ref q)] := hl
  refine lv_aload_n hx hb dX5_players_0 rfl (lv_at hl 0 rfl) ?_
  refine lv_iconst (v := nI 1) hx hb dX5_players_1 (by decide) ?_
  have hp9 : List.Perm ([(q, .inr (5, [.ref z, .int (nI n)])), (z, .inl (G.2 0, 120, .inl u))] : va_W) ((txW G q z n u) ++ ([])) := (pm_cut (cs := [[(q, .inr (5, [.ref z, .int (nI n)]))], [(z, .inl (G.2 0, 120, .inl u))]]) (sub := [[(q, .inr (5, [.ref z, .int (nI n)]))], [(z, .inl (G.2 0, 120, .inl u))]]) (rest := []) 2 [0, 1] [] rfl rfl rfl (by decide))
  have hq9 : List.Perm ((txW G q z n u) ++ ([])) ([(q, .inr (5, [.ref z, .int (nI n)])), (z, .inl (G.2 0, 120, .inl u))] : va_W) := (pm_put (cs := [[(q, .inr (5, [.ref z, .int (nI n)]))], [(z, .inl (G.2 0, 120, .inl u))]]) (sub := [[(q, .inr (5, [.ref z, .int (nI n)]))], [(z, .inl (G.2 0, 120, .inl u))]]) (rest := []) 2 [0, 1] [] rfl rfl rfl (by decide))
  refine z_callV (As := [.int (nI 1)]) (rest := []) (wc := txW G q z n u) (wr := []) (w1 := txW G q z n u) (ws' := [(q, .inr (5, [.ref z, .int (nI n)])), (z, .inl (G.2 0, 120, .inl u))]) ⟨hx, hb, hml, hown, hts⟩ (c_digitAt l G q z n u 1 (by omega) hu hn ) (cwV 1 hts gX5_players_X5_digitAt rfl rfl rfl (by decide +kernel) ⟨Nat.le_of_ble_eq_true rfl, Nat.le_of_ble_eq_true rfl⟩) 5 rfl rfl rfl rfl hl.1 rfl (Nat.le_of_ble_eq_true rfl) dX5_players_2 ⟨Nat.le_of_ble_eq_true rfl, Nat.le_of_ble_eq_true rfl⟩ hK hE hA hM hp9 hq9 (fun H locs hM hz => ?_)
  exact z_iret hx hb hr hlocks dX5_players_5 hM (Nat.le_of_ble_eq_true rfl) (Nat.le_of_ble_eq_true rfl) rfl

set_option maxHeartbeats 4000000 in
set_option maxRecDepth 100000 in
theorem c_txSeed (l : Launch) (G : zC) (q z n : Nat) (u : Nat → Int32) (hu : zTu u) (hn : n ≤ 120) : zMet l G yX5_seed wsX5_seed rmX5_seed [.ref q] (txW G q z n u) (some (.int (10 * (zSa u n 2 - 48) + (zSa u n 3 - 48)))) (txW G q z n u) := by
  refine zMet_of (cc := cX5_seed) (maxL := 1) (ret := (some .int)) (by decide) rfl (Nat.le_of_ble_eq_true rfl) ?_
  intro p e s m below meth c A ls hx hb hr hml hown hts hK hA hE hlocks hin hM hl
  have hown : s.vm.findClass RX5 = some m.cls := hown
  have hM : zM G A s s.heap [] ([(q, .inr (5, [.ref z, .int (nI n)])), (z, .inl (G.2 0, 120, .inl u))]) := hM
  have hl : lv_has ls 1 [(0, .ref q)] := hl
  refine lv_bipush (v := 10) hx hb dX5_seed_0 (by decide) ?_
  refine lv_aload_n hx hb dX5_seed_2 rfl (lv_at hl 0 rfl) ?_
  refine lv_iconst (v := nI 2) hx hb dX5_seed_3 (by decide) ?_
  have hp9 : List.Perm ([(q, .inr (5, [.ref z, .int (nI n)])), (z, .inl (G.2 0, 120, .inl u))] : va_W) ((txW G q z n u) ++ ([])) := (pm_cut (cs := [[(q, .inr (5, [.ref z, .int (nI n)]))], [(z, .inl (G.2 0, 120, .inl u))]]) (sub := [[(q, .inr (5, [.ref z, .int (nI n)]))], [(z, .inl (G.2 0, 120, .inl u))]]) (rest := []) 2 [0, 1] [] rfl rfl rfl (by decide))
  have hq9 : List.Perm ((txW G q z n u) ++ ([])) ([(q, .inr (5, [.ref z, .int (nI n)])), (z, .inl (G.2 0, 120, .inl u))] : va_W) := (pm_put (cs := [[(q, .inr (5, [.ref z, .int (nI n)]))], [(z, .inl (G.2 0, 120, .inl u))]]) (sub := [[(q, .inr (5, [.ref z, .int (nI n)]))], [(z, .inl (G.2 0, 120, .inl u))]]) (rest := []) 2 [0, 1] [] rfl rfl rfl (by decide))
  refine z_callV (As := [.int (nI 2)]) (rest := [.int 10]) (wc := txW G q z n u) (wr := []) (w1 := txW G q z n u) (ws' := [(q, .inr (5, [.ref z, .int (nI n)])), (z, .inl (G.2 0, 120, .inl u))]) ⟨hx, hb, hml, hown, hts⟩ (c_digitAt l G q z n u 2 (by omega) hu hn ) (cwV 1 hts gX5_seed_X5_digitAt rfl rfl rfl (by decide +kernel) ⟨Nat.le_of_ble_eq_true rfl, Nat.le_of_ble_eq_true rfl⟩) 5 rfl rfl rfl rfl hl.1 rfl (Nat.le_of_ble_eq_true rfl) dX5_seed_4 ⟨Nat.le_of_ble_eq_true rfl, Nat.le_of_ble_eq_true rfl⟩ hK hE hA hM hp9 hq9 (fun H locs hM hz => ?_)
  refine lv_imul hx hb dX5_seed_7 ?_
  refine lv_aload_n hx hb dX5_seed_8 rfl (lv_at hl 0 rfl) ?_
  refine lv_iconst (v := nI 3) hx hb dX5_seed_9 (by decide) ?_
  have hp9 : List.Perm ([(q, .inr (5, [.ref z, .int (nI n)])), (z, .inl (G.2 0, 120, .inl u))] : va_W) ((txW G q z n u) ++ ([])) := (pm_cut (cs := [[(q, .inr (5, [.ref z, .int (nI n)]))], [(z, .inl (G.2 0, 120, .inl u))]]) (sub := [[(q, .inr (5, [.ref z, .int (nI n)]))], [(z, .inl (G.2 0, 120, .inl u))]]) (rest := []) 2 [0, 1] [] rfl rfl rfl (by decide))
  have hq9 : List.Perm ((txW G q z n u) ++ ([])) ([(q, .inr (5, [.ref z, .int (nI n)])), (z, .inl (G.2 0, 120, .inl u))] : va_W) := (pm_put (cs := [[(q, .inr (5, [.ref z, .int (nI n)]))], [(z, .inl (G.2 0, 120, .inl u))]]) (sub := [[(q, .inr (5, [.ref z, .int (nI n)]))], [(z, .inl (G.2 0, 120, .inl u))]]) (rest := []) 2 [0, 1] [] rfl rfl rfl (by decide))
  refine z_callV (As := [.int (nI 3)]) (rest := [.int (10 * (zSa u n 2 - 48))]) (wc := txW G q z n u) (wr := []) (w1 := txW G q z n u) (ws' := [(q, .inr (5, [.ref z, .int (nI n)])), (z, .inl (G.2 0, 120, .inl u))]) ⟨hx, hb, hml, hown, hts⟩ (c_digitAt l G q z n u 3 (by omega) hu hn ) (cwV 1 hts gX5_seed_X5_digitAt rfl rfl rfl (by decide +kernel) ⟨Nat.le_of_ble_eq_true rfl, Nat.le_of_ble_eq_true rfl⟩) 5 rfl rfl rfl rfl hl.1 rfl (Nat.le_of_ble_eq_true rfl) dX5_seed_10 ⟨Nat.le_of_ble_eq_true rfl, Nat.le_of_ble_eq_true rfl⟩ hK hE hA hM hp9 hq9 (fun H locs hM hz => ?_)
  refine lv_iadd hx hb dX5_seed_13 ?_
  exact z_iret hx hb hr hlocks dX5_seed_14 hM (Nat.le_of_ble_eq_true rfl) (Nat.le_of_ble_eq_true rfl) rfl

set_option maxHeartbeats 4000000 in
set_option maxRecDepth 100000 in
theorem c_isMoveAt (l : Launch) (G : zC) (q z n : Nat) (u : Nat → Int32) (j : Nat) (hj9 : j < 1000000) (hu : zTu u) (hn : n ≤ 120) : zMet l G yX5_isMoveAt wsX5_isMoveAt rmX5_isMoveAt [.ref q, .int (nI j)] (txW G q z n u) (some (.int (zb (zIm (zSa u n j))))) (txW G q z n u) := by
  refine zMet_of (cc := cX5_isMoveAt) (maxL := 3) (ret := (some .boolean)) (by decide) rfl (Nat.le_of_ble_eq_true rfl) ?_
  intro p e s m below meth c A ls hx hb hr hml hown hts hK hA hE hlocks hin hM hl
  have hown : s.vm.findClass RX5 = some m.cls := hown
  have hM : zM G A s s.heap [] ([(q, .inr (5, [.ref z, .int (nI n)])), (z, .inl (G.2 0, 120, .inl u))]) := hM
  have hl : lv_has ls 3 [(0, .ref q), (1, .int (nI j))] := hl
  refine lv_aload_n hx hb dX5_isMoveAt_0 rfl (lv_at hl 0 rfl) ?_
  refine lv_iload_n hx hb dX5_isMoveAt_1 rfl (lv_at hl 1 rfl) ?_
  have hp9 : List.Perm ([(q, .inr (5, [.ref z, .int (nI n)])), (z, .inl (G.2 0, 120, .inl u))] : va_W) ((txW G q z n u) ++ ([])) := (pm_cut (cs := [[(q, .inr (5, [.ref z, .int (nI n)]))], [(z, .inl (G.2 0, 120, .inl u))]]) (sub := [[(q, .inr (5, [.ref z, .int (nI n)]))], [(z, .inl (G.2 0, 120, .inl u))]]) (rest := []) 2 [0, 1] [] rfl rfl rfl (by decide))
  have hq9 : List.Perm ((txW G q z n u) ++ ([])) ([(q, .inr (5, [.ref z, .int (nI n)])), (z, .inl (G.2 0, 120, .inl u))] : va_W) := (pm_put (cs := [[(q, .inr (5, [.ref z, .int (nI n)]))], [(z, .inl (G.2 0, 120, .inl u))]]) (sub := [[(q, .inr (5, [.ref z, .int (nI n)]))], [(z, .inl (G.2 0, 120, .inl u))]]) (rest := []) 2 [0, 1] [] rfl rfl rfl (by decide))
  refine z_callV (As := [.int (nI j)]) (rest := []) (wc := txW G q z n u) (wr := []) (w1 := txW G q z n u) (ws' := [(q, .inr (5, [.ref z, .int (nI n)])), (z, .inl (G.2 0, 120, .inl u))]) ⟨hx, hb, hml, hown, hts⟩ (c_signAt l G q z n u j (by omega) hu hn ) (cwV 1 hts gX5_isMoveAt_X5_signAt rfl rfl rfl (by decide +kernel) ⟨Nat.le_of_ble_eq_true rfl, Nat.le_of_ble_eq_true rfl⟩) 5 rfl rfl rfl rfl hl.1 rfl (Nat.le_of_ble_eq_true rfl) dX5_isMoveAt_2 ⟨Nat.le_of_ble_eq_true rfl, Nat.le_of_ble_eq_true rfl⟩ hK hE hA hM hp9 hq9 (fun H locs hM hz => ?_)
  refine lv_istore_n (lv' := [(2, .int (zSa u n j)), (0, .ref q), (1, .int (nI j))]) hx hb dX5_isMoveAt_5 rfl hl (by decide) rfl (fun ls hl => ?_)
  refine lv_iload_n hx hb dX5_isMoveAt_6 rfl (lv_at hl 0 rfl) ?_
  refine lv_bipush (v := 115) hx hb dX5_isMoveAt_7 (by decide) ?_
  refine lv_icmp_eq (tgt := 24) hx hb dX5_isMoveAt_9 (by decide) (fun c_1 => ?_) (fun c_1 => ?_)
  · skip
    refine lv_iconst (v := 1) hx hb dX5_isMoveAt_24 (by decide) ?_
    refine lv_goto (tgt := 29) hx hb dX5_isMoveAt_25 (by decide) ?_
    exact z_zret hx hb hr hlocks dX5_isMoveAt_29 hM (Nat.le_of_ble_eq_true rfl) (Nat.le_of_ble_eq_true rfl) (by first | exact Or.inl rfl | exact Or.inr rfl | exact zb_01 _) (by simp only [zb, zIm, decide_eq_true c_1] <;> rfl)
  · skip
    refine lv_iload_n hx hb dX5_isMoveAt_12 rfl (lv_at hl 0 rfl) ?_
    refine lv_bipush (v := 103) hx hb dX5_isMoveAt_13 (by decide) ?_
    refine lv_icmp_eq (tgt := 24) hx hb dX5_isMoveAt_15 (by decide) (fun c_2 => ?_) (fun c_2 => ?_)
    · skip
      refine lv_iconst (v := 1) hx hb dX5_isMoveAt_24 (by decide) ?_
      refine lv_goto (tgt := 29) hx hb dX5_isMoveAt_25 (by decide) ?_
      exact z_zret hx hb hr hlocks dX5_isMoveAt_29 hM (Nat.le_of_ble_eq_true rfl) (Nat.le_of_ble_eq_true rfl) (by first | exact Or.inl rfl | exact Or.inr rfl | exact zb_01 _) (by simp only [zb, zIm, decide_eq_false c_1, decide_eq_true c_2] <;> rfl)
    · skip
      refine lv_iload_n hx hb dX5_isMoveAt_18 rfl (lv_at hl 0 rfl) ?_
      refine lv_bipush (v := 108) hx hb dX5_isMoveAt_19 (by decide) ?_
      refine lv_icmp_ne (tgt := 28) hx hb dX5_isMoveAt_21 (by decide) (fun c_3 => ?_) (fun c_3 => ?_)
      · skip
        refine lv_iconst (v := 0) hx hb dX5_isMoveAt_28 (by decide) ?_
        exact z_zret hx hb hr hlocks dX5_isMoveAt_29 hM (Nat.le_of_ble_eq_true rfl) (Nat.le_of_ble_eq_true rfl) (by first | exact Or.inl rfl | exact Or.inr rfl | exact zb_01 _) (by simp only [zb, zIm, decide_eq_false c_1, decide_eq_false c_2, decide_eq_false c_3] <;> rfl)
      · skip
        refine lv_iconst (v := 1) hx hb dX5_isMoveAt_24 (by decide) ?_
        refine lv_goto (tgt := 29) hx hb dX5_isMoveAt_25 (by decide) ?_
        exact z_zret hx hb hr hlocks dX5_isMoveAt_29 hM (Nat.le_of_ble_eq_true rfl) (Nat.le_of_ble_eq_true rfl) (by first | exact Or.inl rfl | exact Or.inr rfl | exact zb_01 _) (by simp only [zb, zIm, decide_eq_false c_1, decide_eq_false c_2, decide_eq_true c_3] <;> rfl)

set_option maxHeartbeats 4000000 in
set_option maxRecDepth 100000 in
theorem c_dueLetter (l : Launch) (G : zC) (k : Int32) : zMet l G yX5_dueAfterLetter wsX5_dueAfterLetter rmX5_dueAfterLetter [.int k] ([]) (some (.int (zDl9 k))) ([]) := by
  refine zMet_of (cc := cX5_dueAfterLetter) (maxL := 1) (ret := (some .int)) (by decide) rfl (Nat.le_of_ble_eq_true rfl) ?_
  intro p e s m below meth c A ls hx hb hr hml hown hts hK hA hE hlocks hin hM hl
  have hown : s.vm.findClass RX5 = some m.cls := hown
  have hM : zM G A s s.heap [] ([]) := hM
  have hl : lv_has ls 1 [(0, .int k)] := hl
  refine lv_iload_n hx hb dX5_dueAfterLetter_0 rfl (lv_at hl 0 rfl) ?_
  refine lv_bipush (v := 115) hx hb dX5_dueAfterLetter_1 (by decide) ?_
  refine lv_icmp_ne (tgt := 8) hx hb dX5_dueAfterLetter_3 (by decide) (fun c_1 => ?_) (fun c_1 => ?_)
  · skip
    refine lv_iload_n hx hb dX5_dueAfterLetter_8 rfl (lv_at hl 0 rfl) ?_
    refine lv_bipush (v := 103) hx hb dX5_dueAfterLetter_9 (by decide) ?_
    refine lv_icmp_ne (tgt := 17) hx hb dX5_dueAfterLetter_11 (by decide) (fun c_2 => ?_) (fun c_2 => ?_)
    · skip
      refine lv_iload_n hx hb dX5_dueAfterLetter_17 rfl (lv_at hl 0 rfl) ?_
      refine lv_bipush (v := 108) hx hb dX5_dueAfterLetter_18 (by decide) ?_
      refine lv_icmp_ne (tgt := 28) hx hb dX5_dueAfterLetter_20 (by decide) (fun c_3 => ?_) (fun c_3 => ?_)
      · skip
        refine lv_iconst (v := (-1)) hx hb dX5_dueAfterLetter_28 (by decide) ?_
        exact z_iret hx hb hr hlocks dX5_dueAfterLetter_29 hM (Nat.le_of_ble_eq_true rfl) (Nat.le_of_ble_eq_true rfl) (by rw [zDl9, if_neg c_1, if_neg c_2, if_neg c_3])
      · skip
        refine lv_bipush (v := 9) hx hb dX5_dueAfterLetter_23 (by decide) ?_
        refine lv_goto (tgt := 29) hx hb dX5_dueAfterLetter_25 (by decide) ?_
        exact z_iret hx hb hr hlocks dX5_dueAfterLetter_29 hM (Nat.le_of_ble_eq_true rfl) (Nat.le_of_ble_eq_true rfl) (by rw [zDl9, if_neg c_1, if_neg c_2, if_pos c_3])
    · skip
      refine lv_bipush (v := 8) hx hb dX5_dueAfterLetter_14 (by decide) ?_
      exact z_iret hx hb hr hlocks dX5_dueAfterLetter_16 hM (Nat.le_of_ble_eq_true rfl) (Nat.le_of_ble_eq_true rfl) (by rw [zDl9, if_neg c_1, if_pos c_2])
  · skip
    refine lv_iconst (v := 5) hx hb dX5_dueAfterLetter_6 (by decide) ?_
    exact z_iret hx hb hr hlocks dX5_dueAfterLetter_7 hM (Nat.le_of_ble_eq_true rfl) (Nat.le_of_ble_eq_true rfl) (by rw [zDl9, if_pos c_1])

set_option maxHeartbeats 4000000 in
set_option maxRecDepth 100000 in
theorem c_dueAfter (l : Launch) (G : zC) (d k : Int32) : zMet l G yX5_dueAfter wsX5_dueAfter rmX5_dueAfter [.int d, .int k] ([]) (some (.int (zDu d k))) ([]) := by
  refine zMet_of (cc := cX5_dueAfter) (maxL := 2) (ret := (some .int)) (by decide) rfl (Nat.le_of_ble_eq_true rfl) ?_
  intro p e s m below meth c A ls hx hb hr hml hown hts hK hA hE hlocks hin hM hl
  have hown : s.vm.findClass RX5 = some m.cls := hown
  have hM : zM G A s s.heap [] ([]) := hM
  have hl : lv_has ls 2 [(0, .int d), (1, .int k)] := hl
  refine lv_iload_n hx hb dX5_dueAfter_0 rfl (lv_at hl 0 rfl) ?_
  by_cases hs_1 : d = 0
  · refine lv_tableIn (off := 55) (tgt := 56) hx hb dX5_dueAfter_1 (by rw [hs_1]; decide) (by rw [hs_1]; decide) (by rw [hs_1]; rfl) (by decide) ?_
    refine lv_iload_n hx hb dX5_dueAfter_56 rfl (lv_at hl 1 rfl) ?_
    refine lv_bipush (v := 73) hx hb dX5_dueAfter_57 (by decide) ?_
    refine lv_icmp_ne (tgt := 66) hx hb dX5_dueAfter_59 (by decide) (fun c_2 => ?_) (fun c_2 => ?_)
    · skip
      refine lv_iconst (v := (-1)) hx hb dX5_dueAfter_66 (by decide) ?_
      exact z_iret hx hb hr hlocks dX5_dueAfter_67 hM (Nat.le_of_ble_eq_true rfl) (Nat.le_of_ble_eq_true rfl) (by rw [zDu, if_pos hs_1, if_neg c_2])
    · skip
      refine lv_iconst (v := 1) hx hb dX5_dueAfter_62 (by decide) ?_
      refine lv_goto (tgt := 67) hx hb dX5_dueAfter_63 (by decide) ?_
      exact z_iret hx hb hr hlocks dX5_dueAfter_67 hM (Nat.le_of_ble_eq_true rfl) (Nat.le_of_ble_eq_true rfl) (by rw [zDu, if_pos hs_1, if_pos c_2])
  by_cases hs_3 : d = 1
  · refine lv_tableIn (off := 67) (tgt := 68) hx hb dX5_dueAfter_1 (by rw [hs_3]; decide) (by rw [hs_3]; decide) (by rw [hs_3]; rfl) (by decide) ?_
    refine lv_iload_n hx hb dX5_dueAfter_68 rfl (lv_at hl 1 rfl) ?_
    refine lv_bipush (v := 50) hx hb dX5_dueAfter_69 (by decide) ?_
    refine lv_icmp_lt (tgt := 84) hx hb dX5_dueAfter_71 (by decide) (fun c_4 => ?_) (fun c_4 => ?_)
    · skip
      refine lv_iconst (v := (-1)) hx hb dX5_dueAfter_84 (by decide) ?_
      exact z_iret hx hb hr hlocks dX5_dueAfter_85 hM (Nat.le_of_ble_eq_true rfl) (Nat.le_of_ble_eq_true rfl) (by rw [zDu, if_neg hs_1, if_pos hs_3, if_pos c_4])
    · skip
      refine lv_iload_n hx hb dX5_dueAfter_74 rfl (lv_at hl 1 rfl) ?_
      refine lv_bipush (v := 52) hx hb dX5_dueAfter_75 (by decide) ?_
      refine lv_icmp_gt (tgt := 84) hx hb dX5_dueAfter_77 (by decide) (fun c_5 => ?_) (fun c_5 => ?_)
      · skip
        refine lv_iconst (v := (-1)) hx hb dX5_dueAfter_84 (by decide) ?_
        exact z_iret hx hb hr hlocks dX5_dueAfter_85 hM (Nat.le_of_ble_eq_true rfl) (Nat.le_of_ble_eq_true rfl) (by rw [zDu, if_neg hs_1, if_pos hs_3, if_neg c_4, if_pos c_5])
      · skip
        refine lv_iconst (v := 2) hx hb dX5_dueAfter_80 (by decide) ?_
        refine lv_goto (tgt := 85) hx hb dX5_dueAfter_81 (by decide) ?_
        exact z_iret hx hb hr hlocks dX5_dueAfter_85 hM (Nat.le_of_ble_eq_true rfl) (Nat.le_of_ble_eq_true rfl) (by rw [zDu, if_neg hs_1, if_pos hs_3, if_neg c_4, if_neg c_5])
  by_cases hs_6 : d = 2
  · refine lv_tableIn (off := 85) (tgt := 86) hx hb dX5_dueAfter_1 (by rw [hs_6]; decide) (by rw [hs_6]; decide) (by rw [hs_6]; rfl) (by decide) ?_
    refine lv_iload_n hx hb dX5_dueAfter_86 rfl (lv_at hl 1 rfl) ?_
    refine lv_bipush (v := 48) hx hb dX5_dueAfter_87 (by decide) ?_
    refine lv_icmp_lt (tgt := 102) hx hb dX5_dueAfter_89 (by decide) (fun c_7 => ?_) (fun c_7 => ?_)
    · skip
      refine lv_iconst (v := (-1)) hx hb dX5_dueAfter_102 (by decide) ?_
      exact z_iret hx hb hr hlocks dX5_dueAfter_103 hM (Nat.le_of_ble_eq_true rfl) (Nat.le_of_ble_eq_true rfl) (by rw [zDu, if_neg hs_1, if_neg hs_3, if_pos hs_6, if_pos c_7])
    · skip
      refine lv_iload_n hx hb dX5_dueAfter_92 rfl (lv_at hl 1 rfl) ?_
      refine lv_bipush (v := 57) hx hb dX5_dueAfter_93 (by decide) ?_
      refine lv_icmp_gt (tgt := 102) hx hb dX5_dueAfter_95 (by decide) (fun c_8 => ?_) (fun c_8 => ?_)
      · skip
        refine lv_iconst (v := (-1)) hx hb dX5_dueAfter_102 (by decide) ?_
        exact z_iret hx hb hr hlocks dX5_dueAfter_103 hM (Nat.le_of_ble_eq_true rfl) (Nat.le_of_ble_eq_true rfl) (by rw [zDu, if_neg hs_1, if_neg hs_3, if_pos hs_6, if_neg c_7, if_pos c_8])
      · skip
        refine lv_iconst (v := 3) hx hb dX5_dueAfter_98 (by decide) ?_
        refine lv_goto (tgt := 103) hx hb dX5_dueAfter_99 (by decide) ?_
        exact z_iret hx hb hr hlocks dX5_dueAfter_103 hM (Nat.le_of_ble_eq_true rfl) (Nat.le_of_ble_eq_true rfl) (by rw [zDu, if_neg hs_1, if_neg hs_3, if_pos hs_6, if_neg c_7, if_neg c_8])
  by_cases hs_9 : d = 3
  · refine lv_tableIn (off := 103) (tgt := 104) hx hb dX5_dueAfter_1 (by rw [hs_9]; decide) (by rw [hs_9]; decide) (by rw [hs_9]; rfl) (by decide) ?_
    refine lv_iload_n hx hb dX5_dueAfter_104 rfl (lv_at hl 1 rfl) ?_
    refine lv_bipush (v := 48) hx hb dX5_dueAfter_105 (by decide) ?_
    refine lv_icmp_lt (tgt := 120) hx hb dX5_dueAfter_107 (by decide) (fun c_10 => ?_) (fun c_10 => ?_)
    · skip
      refine lv_iconst (v := (-1)) hx hb dX5_dueAfter_120 (by decide) ?_
      exact z_iret hx hb hr hlocks dX5_dueAfter_121 hM (Nat.le_of_ble_eq_true rfl) (Nat.le_of_ble_eq_true rfl) (by rw [zDu, if_neg hs_1, if_neg hs_3, if_neg hs_6, if_pos hs_9, if_pos c_10])
    · skip
      refine lv_iload_n hx hb dX5_dueAfter_110 rfl (lv_at hl 1 rfl) ?_
      refine lv_bipush (v := 57) hx hb dX5_dueAfter_111 (by decide) ?_
      refine lv_icmp_gt (tgt := 120) hx hb dX5_dueAfter_113 (by decide) (fun c_11 => ?_) (fun c_11 => ?_)
      · skip
        refine lv_iconst (v := (-1)) hx hb dX5_dueAfter_120 (by decide) ?_
        exact z_iret hx hb hr hlocks dX5_dueAfter_121 hM (Nat.le_of_ble_eq_true rfl) (Nat.le_of_ble_eq_true rfl) (by rw [zDu, if_neg hs_1, if_neg hs_3, if_neg hs_6, if_pos hs_9, if_neg c_10, if_pos c_11])
      · skip
        refine lv_iconst (v := 4) hx hb dX5_dueAfter_116 (by decide) ?_
        refine lv_goto (tgt := 121) hx hb dX5_dueAfter_117 (by decide) ?_
        exact z_iret hx hb hr hlocks dX5_dueAfter_121 hM (Nat.le_of_ble_eq_true rfl) (Nat.le_of_ble_eq_true rfl) (by rw [zDu, if_neg hs_1, if_neg hs_3, if_neg hs_6, if_pos hs_9, if_neg c_10, if_neg c_11])
  by_cases hs_12 : d = 4
  · refine lv_tableIn (off := 121) (tgt := 122) hx hb dX5_dueAfter_1 (by rw [hs_12]; decide) (by rw [hs_12]; decide) (by rw [hs_12]; rfl) (by decide) ?_
    refine lv_iload_n hx hb dX5_dueAfter_122 rfl (lv_at hl 1 rfl) ?_
    refine z_callS (As := [.int k]) (rest := []) (wc := []) (wr := []) (w1 := []) (ws' := []) ⟨hx, hb, hml, hown, hts⟩ (c_dueLetter l G k) (va_cwS 1 hts gX5_dueAfter_X5_dueAfterLetter rfl rfl rfl (by decide +kernel) ⟨Nat.le_of_ble_eq_true rfl, Nat.le_of_ble_eq_true rfl⟩) rfl hl.1 rfl (Nat.le_of_ble_eq_true rfl) dX5_dueAfter_123 ⟨Nat.le_of_ble_eq_true rfl, Nat.le_of_ble_eq_true rfl⟩ hK hE hA hM (List.Perm.refl _) (List.Perm.refl _) (fun H locs hM hz => ?_)
    exact z_iret hx hb hr hlocks dX5_dueAfter_126 hM (Nat.le_of_ble_eq_true rfl) (Nat.le_of_ble_eq_true rfl) (by rw [zDu, if_neg hs_1, if_neg hs_3, if_neg hs_6, if_neg hs_9, if_pos hs_12])
  by_cases hs_13 : d = 5
  · refine lv_tableIn (off := 126) (tgt := 127) hx hb dX5_dueAfter_1 (by rw [hs_13]; decide) (by rw [hs_13]; decide) (by rw [hs_13]; rfl) (by decide) ?_
    refine lv_iload_n hx hb dX5_dueAfter_127 rfl (lv_at hl 1 rfl) ?_
    refine lv_bipush (v := 48) hx hb dX5_dueAfter_128 (by decide) ?_
    refine lv_icmp_lt (tgt := 144) hx hb dX5_dueAfter_130 (by decide) (fun c_14 => ?_) (fun c_14 => ?_)
    · skip
      refine lv_iconst (v := (-1)) hx hb dX5_dueAfter_144 (by decide) ?_
      exact z_iret hx hb hr hlocks dX5_dueAfter_145 hM (Nat.le_of_ble_eq_true rfl) (Nat.le_of_ble_eq_true rfl) (by rw [zDu, if_neg hs_1, if_neg hs_3, if_neg hs_6, if_neg hs_9, if_neg hs_12, if_pos hs_13, if_pos c_14])
    · skip
      refine lv_iload_n hx hb dX5_dueAfter_133 rfl (lv_at hl 1 rfl) ?_
      refine lv_bipush (v := 51) hx hb dX5_dueAfter_134 (by decide) ?_
      refine lv_icmp_gt (tgt := 144) hx hb dX5_dueAfter_136 (by decide) (fun c_15 => ?_) (fun c_15 => ?_)
      · skip
        refine lv_iconst (v := (-1)) hx hb dX5_dueAfter_144 (by decide) ?_
        exact z_iret hx hb hr hlocks dX5_dueAfter_145 hM (Nat.le_of_ble_eq_true rfl) (Nat.le_of_ble_eq_true rfl) (by rw [zDu, if_neg hs_1, if_neg hs_3, if_neg hs_6, if_neg hs_9, if_neg hs_12, if_pos hs_13, if_neg c_14, if_pos c_15])
      · skip
        refine lv_bipush (v := 6) hx hb dX5_dueAfter_139 (by decide) ?_
        refine lv_goto (tgt := 145) hx hb dX5_dueAfter_141 (by decide) ?_
        exact z_iret hx hb hr hlocks dX5_dueAfter_145 hM (Nat.le_of_ble_eq_true rfl) (Nat.le_of_ble_eq_true rfl) (by rw [zDu, if_neg hs_1, if_neg hs_3, if_neg hs_6, if_neg hs_9, if_neg hs_12, if_pos hs_13, if_neg c_14, if_neg c_15])
  by_cases hs_16 : d = 6
  · refine lv_tableIn (off := 145) (tgt := 146) hx hb dX5_dueAfter_1 (by rw [hs_16]; decide) (by rw [hs_16]; decide) (by rw [hs_16]; rfl) (by decide) ?_
    refine lv_iload_n hx hb dX5_dueAfter_146 rfl (lv_at hl 1 rfl) ?_
    refine lv_bipush (v := 48) hx hb dX5_dueAfter_147 (by decide) ?_
    refine lv_icmp_lt (tgt := 163) hx hb dX5_dueAfter_149 (by decide) (fun c_17 => ?_) (fun c_17 => ?_)
    · skip
      refine lv_iconst (v := (-1)) hx hb dX5_dueAfter_163 (by decide) ?_
      exact z_iret hx hb hr hlocks dX5_dueAfter_164 hM (Nat.le_of_ble_eq_true rfl) (Nat.le_of_ble_eq_true rfl) (by rw [zDu, if_neg hs_1, if_neg hs_3, if_neg hs_6, if_neg hs_9, if_neg hs_12, if_neg hs_13, if_pos hs_16, if_pos c_17])
    · skip
      refine lv_iload_n hx hb dX5_dueAfter_152 rfl (lv_at hl 1 rfl) ?_
      refine lv_bipush (v := 53) hx hb dX5_dueAfter_153 (by decide) ?_
      refine lv_icmp_gt (tgt := 163) hx hb dX5_dueAfter_155 (by decide) (fun c_18 => ?_) (fun c_18 => ?_)
      · skip
        refine lv_iconst (v := (-1)) hx hb dX5_dueAfter_163 (by decide) ?_
        exact z_iret hx hb hr hlocks dX5_dueAfter_164 hM (Nat.le_of_ble_eq_true rfl) (Nat.le_of_ble_eq_true rfl) (by rw [zDu, if_neg hs_1, if_neg hs_3, if_neg hs_6, if_neg hs_9, if_neg hs_12, if_neg hs_13, if_pos hs_16, if_neg c_17, if_pos c_18])
      · skip
        refine lv_bipush (v := 7) hx hb dX5_dueAfter_158 (by decide) ?_
        refine lv_goto (tgt := 164) hx hb dX5_dueAfter_160 (by decide) ?_
        exact z_iret hx hb hr hlocks dX5_dueAfter_164 hM (Nat.le_of_ble_eq_true rfl) (Nat.le_of_ble_eq_true rfl) (by rw [zDu, if_neg hs_1, if_neg hs_3, if_neg hs_6, if_neg hs_9, if_neg hs_12, if_neg hs_13, if_pos hs_16, if_neg c_17, if_neg c_18])
  by_cases hs_19 : d = 7
  · refine lv_tableIn (off := 164) (tgt := 165) hx hb dX5_dueAfter_1 (by rw [hs_19]; decide) (by rw [hs_19]; decide) (by rw [hs_19]; rfl) (by decide) ?_
    refine lv_iload_n hx hb dX5_dueAfter_165 rfl (lv_at hl 1 rfl) ?_
    refine lv_bipush (v := 43) hx hb dX5_dueAfter_166 (by decide) ?_
    refine lv_icmp_eq (tgt := 177) hx hb dX5_dueAfter_168 (by decide) (fun c_20 => ?_) (fun c_20 => ?_)
    · skip
      refine lv_iconst (v := 4) hx hb dX5_dueAfter_177 (by decide) ?_
      refine lv_goto (tgt := 182) hx hb dX5_dueAfter_178 (by decide) ?_
      exact z_iret hx hb hr hlocks dX5_dueAfter_182 hM (Nat.le_of_ble_eq_true rfl) (Nat.le_of_ble_eq_true rfl) (by rw [zDu, if_neg hs_1, if_neg hs_3, if_neg hs_6, if_neg hs_9, if_neg hs_12, if_neg hs_13, if_neg hs_16, if_pos hs_19, if_pos c_20])
    · skip
      refine lv_iload_n hx hb dX5_dueAfter_171 rfl (lv_at hl 1 rfl) ?_
      refine lv_bipush (v := 45) hx hb dX5_dueAfter_172 (by decide) ?_
      refine lv_icmp_ne (tgt := 181) hx hb dX5_dueAfter_174 (by decide) (fun c_21 => ?_) (fun c_21 => ?_)
      · skip
        refine lv_iconst (v := (-1)) hx hb dX5_dueAfter_181 (by decide) ?_
        exact z_iret hx hb hr hlocks dX5_dueAfter_182 hM (Nat.le_of_ble_eq_true rfl) (Nat.le_of_ble_eq_true rfl) (by rw [zDu, if_neg hs_1, if_neg hs_3, if_neg hs_6, if_neg hs_9, if_neg hs_12, if_neg hs_13, if_neg hs_16, if_pos hs_19, if_neg c_20, if_neg c_21])
      · skip
        refine lv_iconst (v := 4) hx hb dX5_dueAfter_177 (by decide) ?_
        refine lv_goto (tgt := 182) hx hb dX5_dueAfter_178 (by decide) ?_
        exact z_iret hx hb hr hlocks dX5_dueAfter_182 hM (Nat.le_of_ble_eq_true rfl) (Nat.le_of_ble_eq_true rfl) (by rw [zDu, if_neg hs_1, if_neg hs_3, if_neg hs_6, if_neg hs_9, if_neg hs_12, if_neg hs_13, if_neg hs_16, if_pos hs_19, if_neg c_20, if_pos c_21])
  by_cases hs_22 : d = 8
  · refine lv_tableIn (off := 182) (tgt := 183) hx hb dX5_dueAfter_1 (by rw [hs_22]; decide) (by rw [hs_22]; decide) (by rw [hs_22]; rfl) (by decide) ?_
    refine lv_iload_n hx hb dX5_dueAfter_183 rfl (lv_at hl 1 rfl) ?_
    refine lv_bipush (v := 48) hx hb dX5_dueAfter_184 (by decide) ?_
    refine lv_icmp_lt (tgt := 199) hx hb dX5_dueAfter_186 (by decide) (fun c_23 => ?_) (fun c_23 => ?_)
    · skip
      refine lv_iconst (v := (-1)) hx hb dX5_dueAfter_199 (by decide) ?_
      exact z_iret hx hb hr hlocks dX5_dueAfter_200 hM (Nat.le_of_ble_eq_true rfl) (Nat.le_of_ble_eq_true rfl) (by rw [zDu, if_neg hs_1, if_neg hs_3, if_neg hs_6, if_neg hs_9, if_neg hs_12, if_neg hs_13, if_neg hs_16, if_neg hs_19, if_pos hs_22, if_pos c_23])
    · skip
      refine lv_iload_n hx hb dX5_dueAfter_189 rfl (lv_at hl 1 rfl) ?_
      refine lv_bipush (v := 56) hx hb dX5_dueAfter_190 (by decide) ?_
      refine lv_icmp_gt (tgt := 199) hx hb dX5_dueAfter_192 (by decide) (fun c_24 => ?_) (fun c_24 => ?_)
      · skip
        refine lv_iconst (v := (-1)) hx hb dX5_dueAfter_199 (by decide) ?_
        exact z_iret hx hb hr hlocks dX5_dueAfter_200 hM (Nat.le_of_ble_eq_true rfl) (Nat.le_of_ble_eq_true rfl) (by rw [zDu, if_neg hs_1, if_neg hs_3, if_neg hs_6, if_neg hs_9, if_neg hs_12, if_neg hs_13, if_neg hs_16, if_neg hs_19, if_pos hs_22, if_neg c_23, if_pos c_24])
      · skip
        refine lv_iconst (v := 4) hx hb dX5_dueAfter_195 (by decide) ?_
        refine lv_goto (tgt := 200) hx hb dX5_dueAfter_196 (by decide) ?_
        exact z_iret hx hb hr hlocks dX5_dueAfter_200 hM (Nat.le_of_ble_eq_true rfl) (Nat.le_of_ble_eq_true rfl) (by rw [zDu, if_neg hs_1, if_neg hs_3, if_neg hs_6, if_neg hs_9, if_neg hs_12, if_neg hs_13, if_neg hs_16, if_neg hs_19, if_pos hs_22, if_neg c_23, if_neg c_24])
  by_cases hs_25 : d = 9
  · refine lv_tableIn (off := 200) (tgt := 201) hx hb dX5_dueAfter_1 (by rw [hs_25]; decide) (by rw [hs_25]; decide) (by rw [hs_25]; rfl) (by decide) ?_
    refine lv_iload_n hx hb dX5_dueAfter_201 rfl (lv_at hl 1 rfl) ?_
    refine lv_bipush (v := 48) hx hb dX5_dueAfter_202 (by decide) ?_
    refine lv_icmp_lt (tgt := 217) hx hb dX5_dueAfter_204 (by decide) (fun c_26 => ?_) (fun c_26 => ?_)
    · skip
      refine lv_iconst (v := (-1)) hx hb dX5_dueAfter_217 (by decide) ?_
      exact z_iret hx hb hr hlocks dX5_dueAfter_218 hM (Nat.le_of_ble_eq_true rfl) (Nat.le_of_ble_eq_true rfl) (by rw [zDu, if_neg hs_1, if_neg hs_3, if_neg hs_6, if_neg hs_9, if_neg hs_12, if_neg hs_13, if_neg hs_16, if_neg hs_19, if_neg hs_22, if_pos hs_25, if_pos c_26])
    · skip
      refine lv_iload_n hx hb dX5_dueAfter_207 rfl (lv_at hl 1 rfl) ?_
      refine lv_bipush (v := 53) hx hb dX5_dueAfter_208 (by decide) ?_
      refine lv_icmp_gt (tgt := 217) hx hb dX5_dueAfter_210 (by decide) (fun c_27 => ?_) (fun c_27 => ?_)
      · skip
        refine lv_iconst (v := (-1)) hx hb dX5_dueAfter_217 (by decide) ?_
        exact z_iret hx hb hr hlocks dX5_dueAfter_218 hM (Nat.le_of_ble_eq_true rfl) (Nat.le_of_ble_eq_true rfl) (by rw [zDu, if_neg hs_1, if_neg hs_3, if_neg hs_6, if_neg hs_9, if_neg hs_12, if_neg hs_13, if_neg hs_16, if_neg hs_19, if_neg hs_22, if_pos hs_25, if_neg c_26, if_pos c_27])
      · skip
        refine lv_iconst (v := 4) hx hb dX5_dueAfter_213 (by decide) ?_
        refine lv_goto (tgt := 218) hx hb dX5_dueAfter_214 (by decide) ?_
        exact z_iret hx hb hr hlocks dX5_dueAfter_218 hM (Nat.le_of_ble_eq_true rfl) (Nat.le_of_ble_eq_true rfl) (by rw [zDu, if_neg hs_1, if_neg hs_3, if_neg hs_6, if_neg hs_9, if_neg hs_12, if_neg hs_13, if_neg hs_16, if_neg hs_19, if_neg hs_22, if_pos hs_25, if_neg c_26, if_neg c_27])
  refine lv_tableOut (tgt := 219) hx hb dX5_dueAfter_1 (z_tout 0 9 (by intro k h1 h2; have hk : k = 0 ∨ k = 1 ∨ k = 2 ∨ k = 3 ∨ k = 4 ∨ k = 5 ∨ k = 6 ∨ k = 7 ∨ k = 8 ∨ k = 9 := (by omega); rcases hk with rfl | rfl | rfl | rfl | rfl | rfl | rfl | rfl | rfl | rfl <;> first | exact hs_1 | exact hs_3 | exact hs_6 | exact hs_9 | exact hs_12 | exact hs_13 | exact hs_16 | exact hs_19 | exact hs_22 | exact hs_25)) (by decide) ?_
  refine lv_iconst (v := (-1)) hx hb dX5_dueAfter_219 (by decide) ?_
  exact z_iret hx hb hr hlocks dX5_dueAfter_220 hM (Nat.le_of_ble_eq_true rfl) (Nat.le_of_ble_eq_true rfl) (by rw [zDu, if_neg hs_1, if_neg hs_3, if_neg hs_6, if_neg hs_9, if_neg hs_12, if_neg hs_13, if_neg hs_16, if_neg hs_19, if_neg hs_22, if_neg hs_25])

set_option maxHeartbeats 4000000 in
set_option maxRecDepth 100000 in
theorem c_wrongAt (l : Launch) (G : zC) (q z n : Nat) (u : Nat → Int32) (hu : zTu u) (hn : n ≤ 120) : zMet l G yX5_wrongAt wsX5_wrongAt rmX5_wrongAt [.ref q] (txW G q z n u) (some (.int (zWr u n n 0 0))) (txW G q z n u) := by
  refine zMet_of (cc := cX5_wrongAt) (maxL := 3) (ret := (some .int)) (by decide) rfl (Nat.le_of_ble_eq_true rfl) ?_
  intro p e s m below meth c A ls hx hb hr hml hown hts hK hA hE hlocks hin hM hl
  have hown : s.vm.findClass RX5 = some m.cls := hown
  have hM : zM G A s s.heap [] ([(q, .inr (5, [.ref z, .int (nI n)])), (z, .inl (G.2 0, 120, .inl u))]) := hM
  have hl : lv_has ls 3 [(0, .ref q)] := hl
  refine lv_iconst (v := 0) hx hb dX5_wrongAt_0 (by decide) ?_
  refine lv_istore_n (lv' := [(1, .int 0), (0, .ref q)]) hx hb dX5_wrongAt_1 rfl hl (by decide) rfl (fun ls hl => ?_)
  refine lv_iconst (v := nI 0) hx hb dX5_wrongAt_2 (by decide) ?_
  refine lv_istore_n (lv' := [(2, .int (nI 0)), (1, .int 0), (0, .ref q)]) hx hb dX5_wrongAt_3 rfl hl (by decide) rfl (fun ls hl => ?_)
  have lp4 : ∀ (k : Nat) (i : Nat) (d : Int32), (i + k = n) → (zWr u n n 0 0 = zWr u n k i d) → ∀ (H : Heap) (locs : List Loc), zM G A s H locs ([(q, .inr (5, [.ref z, .int (nI n)])), (z, .inl (G.2 0, 120, .inl u))]) → ∀ ls : Array Slot, lv_has ls 3 [(0, .ref q), (1, .int d), (2, .int (nI i))] → W p l e rmX5_wrongAt s m ([.ref q] : List Value).toArray below meth c H locs 0 0 (zEnd G below ([.ref q] : List Value).toArray s rmX5_wrongAt A (some (.int (zWr u n n 0 0))) (txW G q z n u)) (F0 m 4 ls []) := by
    intro k
    induction k with
    | zero =>
      intro i d hik hR H locs hM ls hl
      refine lv_iload_n hx hb dX5_wrongAt_4 rfl (lv_at hl 2 rfl) ?_
      refine lv_aload_n hx hb dX5_wrongAt_5 rfl (lv_at hl 0 rfl) ?_
      refine z_get (ci := 5) (v := .int (nI n)) (C := RX5) (T := TX5) (N := 2) hx hb hts (by decide +kernel) hown hK hM 0 rfl rfl 1 (by decide) (hts (.fieldLink RX5 15 "ShiftIsles$Text" "length" "I") (by decide +kernel)) (fun _ h9 => h9) rfl dX5_wrongAt_6 ?_
      refine lv_icmp_ge (tgt := 35) hx hb dX5_wrongAt_9 (by decide) (fun c_1 => ?_) (fun c_1 => absurd (nI_le (by omega) (by omega)) c_1)
      refine lv_iload_n hx hb dX5_wrongAt_35 rfl (lv_at hl 1 rfl) ?_
      refine lv_iconst (v := 4) hx hb dX5_wrongAt_36 (by decide) ?_
      refine lv_icmp_ne (tgt := 44) hx hb dX5_wrongAt_37 (by decide) (fun c_4 => ?_) (fun c_4 => ?_)
      · skip
        refine lv_aload_n hx hb dX5_wrongAt_44 rfl (lv_at hl 0 rfl) ?_
        refine z_get (ci := 5) (v := .int (nI n)) (C := RX5) (T := TX5) (N := 2) hx hb hts (by decide +kernel) hown hK hM 0 rfl rfl 1 (by decide) (hts (.fieldLink RX5 15 "ShiftIsles$Text" "length" "I") (by decide +kernel)) (fun _ h9 => h9) rfl dX5_wrongAt_45 ?_
        exact z_iret hx hb hr hlocks dX5_wrongAt_48 hM (Nat.le_of_ble_eq_true rfl) (Nat.le_of_ble_eq_true rfl) (by rw [hR, zWr, if_neg c_4])
      · skip
        refine lv_iconst (v := (-1)) hx hb dX5_wrongAt_40 (by decide) ?_
        refine lv_goto (tgt := 48) hx hb dX5_wrongAt_41 (by decide) ?_
        exact z_iret hx hb hr hlocks dX5_wrongAt_48 hM (Nat.le_of_ble_eq_true rfl) (Nat.le_of_ble_eq_true rfl) (by rw [hR, zWr, if_pos c_4])
    | succ k ih =>
      intro i d hik hR H locs hM ls hl
      refine lv_iload_n hx hb dX5_wrongAt_4 rfl (lv_at hl 2 rfl) ?_
      refine lv_aload_n hx hb dX5_wrongAt_5 rfl (lv_at hl 0 rfl) ?_
      refine z_get (ci := 5) (v := .int (nI n)) (C := RX5) (T := TX5) (N := 2) hx hb hts (by decide +kernel) hown hK hM 0 rfl rfl 1 (by decide) (hts (.fieldLink RX5 15 "ShiftIsles$Text" "length" "I") (by decide +kernel)) (fun _ h9 => h9) rfl dX5_wrongAt_6 ?_
      refine lv_icmp_ge (tgt := 35) hx hb dX5_wrongAt_9 (by decide) (fun c_2 => absurd c_2 (nI_ge (by omega) (by omega))) (fun c_2 => ?_)
      refine lv_iload_n hx hb dX5_wrongAt_12 rfl (lv_at hl 1 rfl) ?_
      refine lv_aload_n hx hb dX5_wrongAt_13 rfl (lv_at hl 0 rfl) ?_
      refine lv_iload_n hx hb dX5_wrongAt_14 rfl (lv_at hl 2 rfl) ?_
      have hp9 : List.Perm ([(q, .inr (5, [.ref z, .int (nI n)])), (z, .inl (G.2 0, 120, .inl u))] : va_W) ((txW G q z n u) ++ ([])) := (pm_cut (cs := [[(q, .inr (5, [.ref z, .int (nI n)]))], [(z, .inl (G.2 0, 120, .inl u))]]) (sub := [[(q, .inr (5, [.ref z, .int (nI n)]))], [(z, .inl (G.2 0, 120, .inl u))]]) (rest := []) 2 [0, 1] [] rfl rfl rfl (by decide))
      have hq9 : List.Perm ((txW G q z n u) ++ ([])) ([(q, .inr (5, [.ref z, .int (nI n)])), (z, .inl (G.2 0, 120, .inl u))] : va_W) := (pm_put (cs := [[(q, .inr (5, [.ref z, .int (nI n)]))], [(z, .inl (G.2 0, 120, .inl u))]]) (sub := [[(q, .inr (5, [.ref z, .int (nI n)]))], [(z, .inl (G.2 0, 120, .inl u))]]) (rest := []) 2 [0, 1] [] rfl rfl rfl (by decide))
      refine z_callV (As := [.int (nI i)]) (rest := [.int d]) (wc := txW G q z n u) (wr := []) (w1 := txW G q z n u) (ws' := [(q, .inr (5, [.ref z, .int (nI n)])), (z, .inl (G.2 0, 120, .inl u))]) ⟨hx, hb, hml, hown, hts⟩ (c_signAt l G q z n u i (by omega) hu hn ) (cwV 1 hts gX5_wrongAt_X5_signAt rfl rfl rfl (by decide +kernel) ⟨Nat.le_of_ble_eq_true rfl, Nat.le_of_ble_eq_true rfl⟩) 5 rfl rfl rfl rfl hl.1 rfl (Nat.le_of_ble_eq_true rfl) dX5_wrongAt_15 ⟨Nat.le_of_ble_eq_true rfl, Nat.le_of_ble_eq_true rfl⟩ hK hE hA hM hp9 hq9 (fun H locs hM hz => ?_)
      refine z_callS (As := [.int d, .int (zSa u n i)]) (rest := []) (wc := []) (wr := [(q, .inr (5, [.ref z, .int (nI n)])), (z, .inl (G.2 0, 120, .inl u))]) (w1 := []) (ws' := [(q, .inr (5, [.ref z, .int (nI n)])), (z, .inl (G.2 0, 120, .inl u))]) ⟨hx, hb, hml, hown, hts⟩ (c_dueAfter l G d (zSa u n i)) (va_cwS 2 hts gX5_wrongAt_X5_dueAfter rfl rfl rfl (by decide +kernel) ⟨Nat.le_of_ble_eq_true rfl, Nat.le_of_ble_eq_true rfl⟩) rfl hl.1 rfl (Nat.le_of_ble_eq_true rfl) dX5_wrongAt_18 ⟨Nat.le_of_ble_eq_true rfl, Nat.le_of_ble_eq_true rfl⟩ hK hE hA hM (List.Perm.refl _) (List.Perm.refl _) (fun H locs hM hz => ?_)
      refine lv_istore_n (lv' := [(1, .int (zDu d (zSa u n i))), (0, .ref q), (2, .int (nI i))]) hx hb dX5_wrongAt_21 rfl hl (by decide) rfl (fun ls hl => ?_)
      refine lv_iload_n hx hb dX5_wrongAt_22 rfl (lv_at hl 0 rfl) ?_
      refine lv_iconst (v := (-1)) hx hb dX5_wrongAt_23 (by decide) ?_
      refine lv_icmp_ne (tgt := 29) hx hb dX5_wrongAt_24 (by decide) (fun c_w => ?_) (fun c_w => ?_)
      · skip
        refine lv_iinc (v := nI (i + 1)) (lv' := [(2, .int (nI (i + 1))), (1, .int (zDu d (zSa u n i))), (0, .ref q)]) hx hb dX5_wrongAt_29 hl (k := 2) rfl (nI_1 i) (by decide) rfl (fun ls hl => ?_)
        refine lv_goto (tgt := 4) hx hb dX5_wrongAt_32 (by decide) ?_
        exact ih (i + 1) _ (by omega) (by rw [hR, zWr, if_neg c_w]) _ _ hM _ (lv_sub hl [2, 1, 0] rfl)
      · skip
        refine lv_iload_n hx hb dX5_wrongAt_27 rfl (lv_at hl 2 rfl) ?_
        exact z_iret hx hb hr hlocks dX5_wrongAt_28 hM (Nat.le_of_ble_eq_true rfl) (Nat.le_of_ble_eq_true rfl) (by rw [hR, zWr, if_pos c_w])
  exact lp4 n 0 0 (by omega) rfl _ _ hM _ (lv_sub hl [2, 1, 0] rfl)
/-! MEMORY: fourteen games in a ring -/
abbrev fm (n : Nat) (F : Nat → va_W) : va_W := ((List.range n).map F).flatten
def fmR (n : Nat) (F : Nat → va_W) (i : Nat) : va_W := (((List.range n).erase i).map F).flatten
theorem fm_pm {n : Nat} {F : Nat → va_W} {i : Nat} (hi : i < n) : (fm n F).Perm (F i ++ fmR n F i) := by
  have h1 := List.perm_cons_erase (List.mem_range.mpr hi)
  exact (h1.map F).flatten
theorem fm_up {n : Nat} {F F' : Nat → va_W} {i : Nat} (h : ∀ j, j ≠ i → F' j = F j) : fmR n F' i = fmR n F i := by
  unfold fmR
  congr 1
  refine List.map_congr_left (fun j hj => h j ?_)
  rintro rfl
  exact (List.nodup_range.not_mem_erase) hj
theorem fm_pu {n : Nat} {F F' : Nat → va_W} {i : Nat} {w : va_W} (hi : i < n) (h : ∀ j, j ≠ i → F' j = F j) (he : F' i = w) : (w ++ fmR n F i).Perm (fm n F') := by
  have h1 := fm_pm (F := F') hi
  rw [fm_up h, he] at h1
  exact h1.symm
abbrev gsF (G : zC) (ga : Nat → zGA) (h : Nat → Nat → Int32) (b : Nat → Nat → Nat → Int32) : Nat → va_W := fun i => gmW G (ga i) (h i) (b i)
theorem gsF_up {G : zC} {ga : Nat → zGA} {h : Nat → Nat → Int32} {b : Nat → Nat → Nat → Int32} {i : Nat} {h1 : Nat → Int32} {b1 : Nat → Nat → Int32} : ∀ j, j ≠ i → gsF G ga (va_up h i h1) (va_up b i b1) j = gsF G ga h b j := by
  intro j hj
  show gmW G (ga j) (va_up h i h1 j) (va_up b i b1 j) = _
  unfold va_up
  rw [if_neg hj, if_neg hj]
theorem gsF_at {G : zC} {ga : Nat → zGA} {h : Nat → Nat → Int32} {b : Nat → Nat → Nat → Int32} {i : Nat} {h1 : Nat → Int32} {b1 : Nat → Nat → Int32} : gsF G ga (va_up h i h1) (va_up b i b1) i = gmW G (ga i) h1 b1 := by
  show gmW G (ga i) (va_up h i h1 i) (va_up b i b1 i) = _
  unfold va_up
  rw [if_pos rfl, if_pos rfl]
theorem gs_pm {G : zC} {ga : Nat → zGA} {h : Nat → Nat → Int32} {b : Nat → Nat → Nat → Int32} {n i : Nat} (hi : i < n) {X C : va_W} : (X ++ (fm n (gsF G ga h b) ++ C)).Perm ((gmW G (ga i) (h i) (b i) ++ C) ++ (X ++ fmR n (gsF G ga h b) i)) := by
  refine (List.Perm.append_left X (List.Perm.append_right C (fm_pm hi))).trans ?_
  show (X ++ ((gmW G (ga i) (h i) (b i) ++ fmR n (gsF G ga h b) i) ++ C)).Perm _
  generalize gmW G (ga i) (h i) (b i) = g
  generalize fmR n (gsF G ga h b) i = r
  rw [List.append_assoc, List.append_assoc]
  refine pm_l.trans (List.Perm.append_left g ?_)
  exact (List.Perm.append_left X List.perm_append_comm).trans pm_l
theorem gs_pu {G : zC} {ga : Nat → zGA} {h : Nat → Nat → Int32} {b : Nat → Nat → Nat → Int32} {n i : Nat} (hi : i < n) {h1 : Nat → Int32} {b1 : Nat → Nat → Int32} {X C : va_W} : ((gmW G (ga i) h1 b1 ++ C) ++ (X ++ fmR n (gsF G ga h b) i)).Perm (X ++ (fm n (gsF G ga (va_up h i h1) (va_up b i b1)) ++ C)) := by
  refine List.Perm.symm ?_
  have h9 := gs_pm (G := G) (ga := ga) (h := va_up h i h1) (b := va_up b i b1) (X := X) (C := C) hi
  have e1 : gmW G (ga i) (va_up h i h1 i) (va_up b i b1 i) = gmW G (ga i) h1 b1 := gsF_at
  rw [e1, fm_up gsF_up] at h9
  exact h9
theorem gs_pm2 {G : zC} {ga : Nat → zGA} {h : Nat → Nat → Int32} {b : Nat → Nat → Nat → Int32} {n i : Nat} (hi : i < n) {X C : va_W} : (X ++ (fm n (gsF G ga h b) ++ C)).Perm ((C ++ gmW G (ga i) (h i) (b i)) ++ (X ++ fmR n (gsF G ga h b) i)) := (gs_pm hi).trans (List.Perm.append_right _ List.perm_append_comm)
def zHz (h : Nat → Int32) : Prop := (h 2 = 0 ∨ h 2 = 1) ∧ (h 4 = 0 ∨ h 4 = 1)
abbrev mmW (G : zC) (q z : Nat) (ga : Nat → zGA) (k x : Nat) (h : Nat → Nat → Int32) (b : Nat → Nat → Nat → Int32) : va_W := [(q, .inr (3, [.ref z, .int (nI k), .int (nI x)])), (z, .inl (G.2 4, 14, .inr (.inr (.inr (.inr (fun i => some (ga i).1))))))] ++ fm 14 (gsF G ga h b)
def zNe (x : Nat) : Nat := if x + 1 < 14 then x + 1 else 0
def zPv (x : Nat) : Nat := if 0 < x then x - 1 else 13
def zMi (k : Nat) : Nat := if 14 < k + 1 then 14 else k + 1
theorem zMi_e {k : Nat} (hk : k ≤ 14) : (if nI 14 < nI (k + 1) then nI 14 else nI (k + 1)) = nI (zMi k) := by
  unfold zMi
  by_cases e9 : 14 < k + 1
  · rw [if_pos (nI_lt e9 (by omega)), if_pos e9]
  · rw [if_neg (nI_nlt (Nat.not_lt.mp e9) (by decide)), if_neg e9]
set_option maxHeartbeats 4000000 in
set_option maxRecDepth 100000 in
theorem c_mmCount (l : Launch) (G : zC) (q z : Nat) (ga : Nat → zGA) (k x : Nat) (h : Nat → Nat → Int32) (b : Nat → Nat → Nat → Int32) : zMet l G yX3_count wsX3_count rmX3_count [.ref q] (mmW G q z ga k x h b) (some (.int (nI k))) (mmW G q z ga k x h b) := by
  refine zMet_of (cc := cX3_count) (maxL := 1) (ret := (some .int)) (by decide) rfl (Nat.le_of_ble_eq_true rfl) ?_
  intro p e s m below meth c A ls hx hb hr hml hown hts hK hA hE hlocks hin hM hl
  have hown : s.vm.findClass RX3 = some m.cls := hown
  have hM : zM G A s s.heap [] ([(q, .inr (3, [.ref z, .int (nI k), .int (nI x)])), (z, .inl (G.2 4, 14, .inr (.inr (.inr (.inr (fun i => some (ga i).1))))))] ++ (fm 14 (gsF G ga h b))) := hM
  have hl : lv_has ls 1 [(0, .ref q)] := hl
  refine lv_aload_n hx hb dX3_count_0 rfl (lv_at hl 0 rfl) ?_
  refine z_get (ci := 3) (v := .int (nI k)) (C := RX3) (T := TX3) (N := 3) hx hb hts (by decide +kernel) hown hK hM 0 rfl rfl 1 (by decide) (hts (.fieldLink RX3 18 "ShiftIsles$Memory" "count" "I") (by decide +kernel)) (fun _ h9 => h9) rfl dX3_count_1 ?_
  exact z_iret hx hb hr hlocks dX3_count_4 hM (Nat.le_of_ble_eq_true rfl) (Nat.le_of_ble_eq_true rfl) rfl

set_option maxHeartbeats 4000000 in
set_option maxRecDepth 100000 in
theorem c_mmForget (l : Launch) (G : zC) (q z : Nat) (ga : Nat → zGA) (k x : Nat) (h : Nat → Nat → Int32) (b : Nat → Nat → Nat → Int32) : zMet l G yX3_forget wsX3_forget rmX3_forget [.ref q] (mmW G q z ga k x h b) none (mmW G q z ga 0 x h b) := by
  refine zMet_of (cc := cX3_forget) (maxL := 1) (ret := none) (by decide) rfl (Nat.le_of_ble_eq_true rfl) ?_
  intro p e s m below meth c A ls hx hb hr hml hown hts hK hA hE hlocks hin hM hl
  have hown : s.vm.findClass RX3 = some m.cls := hown
  have hM : zM G A s s.heap [] ([(q, .inr (3, [.ref z, .int (nI k), .int (nI x)])), (z, .inl (G.2 4, 14, .inr (.inr (.inr (.inr (fun i => some (ga i).1))))))] ++ (fm 14 (gsF G ga h b))) := hM
  have hl : lv_has ls 1 [(0, .ref q)] := hl
  refine lv_aload_n hx hb dX3_forget_0 rfl (lv_at hl 0 rfl) ?_
  refine lv_iconst (v := nI 0) hx hb dX3_forget_1 (by decide) ?_
  refine z_put (ci := 3) (ty := .int) (v := .int (nI 0)) (C := RX3) (T := TX3) (N := 3) (ws' := [(q, .inr (3, [.ref z, .int (nI 0), .int (nI x)])), (z, .inl (G.2 4, 14, .inr (.inr (.inr (.inr (fun i => some (ga i).1))))))] ++ (fm 14 (gsF G ga h b))) hx hb hts (by decide +kernel) tyX3 tyX3_ok nmX3 hown hK hM 0 rfl rfl 1 (by decide) (hts (.fieldLink RX3 18 "ShiftIsles$Memory" "count" "I") (by decide +kernel)) (fun _ h9 => h9) rfl (by decide +kernel) rfl rfl (Nat.le_of_ble_eq_true rfl) dX3_forget_2 rfl (fun H locs hM => ?_)
  exact z_vret hx hb hr hlocks dX3_forget_5 hM (Nat.le_of_ble_eq_true rfl) (Nat.le_of_ble_eq_true rfl)

set_option maxHeartbeats 4000000 in
set_option maxRecDepth 100000 in
theorem c_mmRemember (l : Launch) (G : zC) (q z : Nat) (ga : Nat → zGA) (k x : Nat) (h : Nat → Nat → Int32) (b : Nat → Nat → Nat → Int32) (a : zGA) (g : Nat → Int32) (d : Nat → Nat → Int32) (hx14 : x < 14) (hk14 : k ≤ 14) (hz0 : zHz g) : zMet l G yX3_remember wsX3_remember rmX3_remember [.ref q, .ref a.1] (mmW G q z ga k x h b ++ gmW G a g d) none (mmW G q z ga (zMi k) (zNe x) (va_up h x g) (va_up b x d) ++ gmW G a g d) := by
  refine zMet_of (cc := cX3_remember) (maxL := 2) (ret := none) (by decide) rfl (Nat.le_of_ble_eq_true rfl) ?_
  intro p e s m below meth c A ls hx hb hr hml hown hts hK hA hE hlocks hin hM hl
  have hown : s.vm.findClass RX3 = some m.cls := hown
  have hl : lv_has ls 2 [(0, .ref q), (1, .ref a.1)] := hl
  have hM : zM G A s s.heap [] ([(q, .inr (3, [.ref z, .int (nI k), .int (nI x)])), (z, .inl (G.2 4, 14, .inr (.inr (.inr (.inr (fun i => some (ga i).1))))))] ++ ((fm 14 (gsF G ga h b)) ++ (gmW G a g d))) := zM_perm (by rw [List.append_assoc]) hM
  refine lv_aload_n hx hb dX3_remember_0 rfl (lv_at hl 0 rfl) ?_
  refine z_get (ci := 3) (v := .int (nI x)) (C := RX3) (T := TX3) (N := 3) hx hb hts (by decide +kernel) hown hK hM 0 rfl rfl 2 (by decide) (hts (.fieldLink RX3 22 "ShiftIsles$Memory" "next" "I") (by decide +kernel)) (fun _ h9 => h9) rfl dX3_remember_1 ?_
  refine lv_if_lt (tgt := 29) hx hb dX3_remember_4 (by decide) (fun c_1 => absurd c_1 (nI_pos (by omega))) (fun c_1 => ?_)
  refine lv_aload_n hx hb dX3_remember_7 rfl (lv_at hl 0 rfl) ?_
  refine z_get (ci := 3) (v := .int (nI x)) (C := RX3) (T := TX3) (N := 3) hx hb hts (by decide +kernel) hown hK hM 0 rfl rfl 2 (by decide) (hts (.fieldLink RX3 22 "ShiftIsles$Memory" "next" "I") (by decide +kernel)) (fun _ h9 => h9) rfl dX3_remember_8 ?_
  refine lv_bipush (v := nI 14) hx hb dX3_remember_11 (by decide) ?_
  refine lv_icmp_ge (tgt := 29) hx hb dX3_remember_13 (by decide) (fun c_2 => absurd c_2 (nI_ge hx14 (by decide))) (fun c_2 => ?_)
  refine lv_aload_n hx hb dX3_remember_16 rfl (lv_at hl 0 rfl) ?_
  refine z_get (ci := 3) (v := .ref z) (C := RX3) (T := TX3) (N := 3) hx hb hts (by decide +kernel) hown hK hM 0 rfl rfl 0 (by decide) (hts (.fieldLink RX3 11 "ShiftIsles$Memory" "states" "[LShiftIsles$Game;") (by decide +kernel)) (fun _ h9 => h9) rfl dX3_remember_17 ?_
  refine lv_aload_n hx hb dX3_remember_20 rfl (lv_at hl 0 rfl) ?_
  refine z_get (ci := 3) (v := .int (nI x)) (C := RX3) (T := TX3) (N := 3) hx hb hts (by decide +kernel) hown hK hM 0 rfl rfl 2 (by decide) (hts (.fieldLink RX3 22 "ShiftIsles$Memory" "next" "I") (by decide +kernel)) (fun _ h9 => h9) rfl dX3_remember_21 ?_
  refine z_aald hx hb hK hM 1 4 rfl rfl (v := (ga x).1) (vp_in_nI (by omega) (by decide)) (by rw [nI_clamp (by omega)]) dX3_remember_24 ?_
  refine lv_aload_n hx hb dX3_remember_25 rfl (lv_at hl 1 rfl) ?_
  have hp9 : List.Perm ([(q, .inr (3, [.ref z, .int (nI k), .int (nI x)])), (z, .inl (G.2 4, 14, .inr (.inr (.inr (.inr (fun i => some (ga i).1))))))] ++ ((fm 14 (gsF G ga h b)) ++ (gmW G a g d)) : va_W) ((gmW G (ga x) (h x) (b x) ++ gmW G a g d) ++ ([(q, .inr (3, [.ref z, .int (nI k), .int (nI x)])), (z, .inl (G.2 4, 14, .inr (.inr (.inr (.inr (fun i => some (ga i).1))))))] ++ fmR 14 (gsF G ga h b) x)) := gs_pm (X := [(q, .inr (3, [.ref z, .int (nI k), .int (nI x)])), (z, .inl (G.2 4, 14, .inr (.inr (.inr (.inr (fun i => some (ga i).1))))))]) hx14
  have hq9 : List.Perm ((gmW G (ga x) g d ++ gmW G a g d) ++ ([(q, .inr (3, [.ref z, .int (nI k), .int (nI x)])), (z, .inl (G.2 4, 14, .inr (.inr (.inr (.inr (fun i => some (ga i).1))))))] ++ fmR 14 (gsF G ga h b) x)) ([(q, .inr (3, [.ref z, .int (nI k), .int (nI x)])), (z, .inl (G.2 4, 14, .inr (.inr (.inr (.inr (fun i => some (ga i).1))))))] ++ ((fm 14 (gsF G ga (va_up h x g) (va_up b x d))) ++ (gmW G a g d)) : va_W) := gs_pu (X := [(q, .inr (3, [.ref z, .int (nI k), .int (nI x)])), (z, .inl (G.2 4, 14, .inr (.inr (.inr (.inr (fun i => some (ga i).1))))))]) hx14
  refine z_callV (As := [.ref a.1]) (rest := []) (wc := gmW G (ga x) (h x) (b x) ++ gmW G a g d) (wr := [(q, .inr (3, [.ref z, .int (nI k), .int (nI x)])), (z, .inl (G.2 4, 14, .inr (.inr (.inr (.inr (fun i => some (ga i).1))))))] ++ fmR 14 (gsF G ga h b) x) (w1 := gmW G (ga x) g d ++ gmW G a g d) (ws' := [(q, .inr (3, [.ref z, .int (nI k), .int (nI x)])), (z, .inl (G.2 4, 14, .inr (.inr (.inr (.inr (fun i => some (ga i).1))))))] ++ ((fm 14 (gsF G ga (va_up h x g) (va_up b x d))) ++ (gmW G a g d))) ⟨hx, hb, hml, hown, hts⟩ (c_gmCopy l G (ga x) a (h x) g (b x) d hz0.1 hz0.2) (cwV 1 hts gX3_remember_X2_copyFrom rfl rfl rfl (by decide +kernel) ⟨Nat.le_of_ble_eq_true rfl, Nat.le_of_ble_eq_true rfl⟩) 2 rfl rfl rfl rfl hl.1 rfl (Nat.le_of_ble_eq_true rfl) dX3_remember_26 ⟨Nat.le_of_ble_eq_true rfl, Nat.le_of_ble_eq_true rfl⟩ hK hE hA hM hp9 hq9 (fun H locs hM hz => ?_)
  refine lv_aload_n hx hb dX3_remember_29 rfl (lv_at hl 0 rfl) ?_
  refine lv_aload_n hx hb dX3_remember_30 rfl (lv_at hl 0 rfl) ?_
  refine z_get (ci := 3) (v := .int (nI x)) (C := RX3) (T := TX3) (N := 3) hx hb hts (by decide +kernel) hown hK hM 0 rfl rfl 2 (by decide) (hts (.fieldLink RX3 22 "ShiftIsles$Memory" "next" "I") (by decide +kernel)) (fun _ h9 => h9) rfl dX3_remember_31 ?_
  refine lv_iconst (v := nI 1) hx hb dX3_remember_34 (by decide) ?_
  refine lv_iadd hx hb dX3_remember_35 ?_
  rw [nI_add x 1]
  refine lv_bipush (v := nI 14) hx hb dX3_remember_36 (by decide) ?_
  refine lv_icmp_ge (tgt := 50) hx hb dX3_remember_38 (by decide) (fun c_x => ?_) (fun c_x => ?_)
  · have hxx : zNe x = 0 := by unfold zNe; rw [if_neg (Nat.not_lt.mpr ((nI_leI (by omega) (by omega)).mp c_x))]
    refine lv_iconst (v := nI 0) hx hb dX3_remember_50 (by decide) ?_
    refine z_put (ci := 3) (ty := .int) (v := .int (nI 0)) (C := RX3) (T := TX3) (N := 3) (ws' := [(q, .inr (3, [.ref z, .int (nI k), .int (nI 0)])), (z, .inl (G.2 4, 14, .inr (.inr (.inr (.inr (fun i => some (ga i).1))))))] ++ ((fm 14 (gsF G ga (va_up h x g) (va_up b x d))) ++ (gmW G a g d))) hx hb hts (by decide +kernel) tyX3 tyX3_ok nmX3 hown hK hM 0 rfl rfl 2 (by decide) (hts (.fieldLink RX3 22 "ShiftIsles$Memory" "next" "I") (by decide +kernel)) (fun _ h9 => h9) rfl (by decide +kernel) rfl rfl (Nat.le_of_ble_eq_true rfl) dX3_remember_51 rfl (fun H locs hM => ?_)
    refine lv_aload_n hx hb dX3_remember_54 rfl (lv_at hl 0 rfl) ?_
    refine lv_aload_n hx hb dX3_remember_55 rfl (lv_at hl 0 rfl) ?_
    refine z_get (ci := 3) (v := .int (nI k)) (C := RX3) (T := TX3) (N := 3) hx hb hts (by decide +kernel) hown hK hM 0 rfl rfl 1 (by decide) (hts (.fieldLink RX3 18 "ShiftIsles$Memory" "count" "I") (by decide +kernel)) (fun _ h9 => h9) rfl dX3_remember_56 ?_
    refine lv_iconst (v := nI 1) hx hb dX3_remember_59 (by decide) ?_
    refine lv_iadd hx hb dX3_remember_60 ?_
    rw [nI_add k 1]
    refine lv_bipush (v := nI 14) hx hb dX3_remember_61 (by decide) ?_
    refine va_mmin hx hb (hml.trans hl.1.symm) hown (hts (.methodLink RX3 29 Lib.Math.min.name) (by decide +kernel)) (hts (.static Lib.Math.min.name) (by decide +kernel)) (hts (.initialized "java/lang/Math") (by decide +kernel)) (hts (.code Lib.Math.min.name Lib.Math.min.code 2 (some .int)) (by decide +kernel)) (Nat.le_of_ble_eq_true rfl) (Nat.le_of_ble_eq_true rfl) (Nat.le_of_ble_eq_true rfl) (Nat.le_of_ble_eq_true rfl) dX3_remember_63 ?_
    refine z_topi (y := nI (zMi k)) (zMi_e hk14) ?_
    refine z_put (ci := 3) (ty := .int) (v := .int (nI (zMi k))) (C := RX3) (T := TX3) (N := 3) (ws' := [(q, .inr (3, [.ref z, .int (nI (zMi k)), .int (nI 0)])), (z, .inl (G.2 4, 14, .inr (.inr (.inr (.inr (fun i => some (ga i).1))))))] ++ ((fm 14 (gsF G ga (va_up h x g) (va_up b x d))) ++ (gmW G a g d))) hx hb hts (by decide +kernel) tyX3 tyX3_ok nmX3 hown hK hM 0 rfl rfl 1 (by decide) (hts (.fieldLink RX3 18 "ShiftIsles$Memory" "count" "I") (by decide +kernel)) (fun _ h9 => h9) rfl (by decide +kernel) rfl rfl (Nat.le_of_ble_eq_true rfl) dX3_remember_66 rfl (fun H locs hM => ?_)
    exact z_vret hx hb hr hlocks dX3_remember_69 (by rw [hxx]; exact zM_perm (by rw [List.append_assoc]) hM) (Nat.le_of_ble_eq_true rfl) (Nat.le_of_ble_eq_true rfl)
  · have hxx : zNe x = x + 1 := by unfold zNe; rw [if_pos (Nat.not_le.mp (fun q => c_x ((nI_leI (by omega) (by omega)).mpr q)))]
    refine lv_aload_n hx hb dX3_remember_41 rfl (lv_at hl 0 rfl) ?_
    refine z_get (ci := 3) (v := .int (nI x)) (C := RX3) (T := TX3) (N := 3) hx hb hts (by decide +kernel) hown hK hM 0 rfl rfl 2 (by decide) (hts (.fieldLink RX3 22 "ShiftIsles$Memory" "next" "I") (by decide +kernel)) (fun _ h9 => h9) rfl dX3_remember_42 ?_
    refine lv_iconst (v := nI 1) hx hb dX3_remember_45 (by decide) ?_
    refine lv_iadd hx hb dX3_remember_46 ?_
    rw [nI_add x 1]
    refine lv_goto (tgt := 51) hx hb dX3_remember_47 (by decide) ?_
    refine z_put (ci := 3) (ty := .int) (v := .int (nI (x + 1))) (C := RX3) (T := TX3) (N := 3) (ws' := [(q, .inr (3, [.ref z, .int (nI k), .int (nI (x + 1))])), (z, .inl (G.2 4, 14, .inr (.inr (.inr (.inr (fun i => some (ga i).1))))))] ++ ((fm 14 (gsF G ga (va_up h x g) (va_up b x d))) ++ (gmW G a g d))) hx hb hts (by decide +kernel) tyX3 tyX3_ok nmX3 hown hK hM 0 rfl rfl 2 (by decide) (hts (.fieldLink RX3 22 "ShiftIsles$Memory" "next" "I") (by decide +kernel)) (fun _ h9 => h9) rfl (by decide +kernel) rfl rfl (Nat.le_of_ble_eq_true rfl) dX3_remember_51 rfl (fun H locs hM => ?_)
    refine lv_aload_n hx hb dX3_remember_54 rfl (lv_at hl 0 rfl) ?_
    refine lv_aload_n hx hb dX3_remember_55 rfl (lv_at hl 0 rfl) ?_
    refine z_get (ci := 3) (v := .int (nI k)) (C := RX3) (T := TX3) (N := 3) hx hb hts (by decide +kernel) hown hK hM 0 rfl rfl 1 (by decide) (hts (.fieldLink RX3 18 "ShiftIsles$Memory" "count" "I") (by decide +kernel)) (fun _ h9 => h9) rfl dX3_remember_56 ?_
    refine lv_iconst (v := nI 1) hx hb dX3_remember_59 (by decide) ?_
    refine lv_iadd hx hb dX3_remember_60 ?_
    rw [nI_add k 1]
    refine lv_bipush (v := nI 14) hx hb dX3_remember_61 (by decide) ?_
    refine va_mmin hx hb (hml.trans hl.1.symm) hown (hts (.methodLink RX3 29 Lib.Math.min.name) (by decide +kernel)) (hts (.static Lib.Math.min.name) (by decide +kernel)) (hts (.initialized "java/lang/Math") (by decide +kernel)) (hts (.code Lib.Math.min.name Lib.Math.min.code 2 (some .int)) (by decide +kernel)) (Nat.le_of_ble_eq_true rfl) (Nat.le_of_ble_eq_true rfl) (Nat.le_of_ble_eq_true rfl) (Nat.le_of_ble_eq_true rfl) dX3_remember_63 ?_
    refine z_topi (y := nI (zMi k)) (zMi_e hk14) ?_
    refine z_put (ci := 3) (ty := .int) (v := .int (nI (zMi k))) (C := RX3) (T := TX3) (N := 3) (ws' := [(q, .inr (3, [.ref z, .int (nI (zMi k)), .int (nI (x + 1))])), (z, .inl (G.2 4, 14, .inr (.inr (.inr (.inr (fun i => some (ga i).1))))))] ++ ((fm 14 (gsF G ga (va_up h x g) (va_up b x d))) ++ (gmW G a g d))) hx hb hts (by decide +kernel) tyX3 tyX3_ok nmX3 hown hK hM 0 rfl rfl 1 (by decide) (hts (.fieldLink RX3 18 "ShiftIsles$Memory" "count" "I") (by decide +kernel)) (fun _ h9 => h9) rfl (by decide +kernel) rfl rfl (Nat.le_of_ble_eq_true rfl) dX3_remember_66 rfl (fun H locs hM => ?_)
    exact z_vret hx hb hr hlocks dX3_remember_69 (by rw [hxx]; exact zM_perm (by rw [List.append_assoc]) hM) (Nat.le_of_ble_eq_true rfl) (Nat.le_of_ble_eq_true rfl)

set_option maxHeartbeats 4000000 in
set_option maxRecDepth 100000 in
theorem c_mmRecall (l : Launch) (G : zC) (q z : Nat) (ga : Nat → zGA) (k x : Nat) (h : Nat → Nat → Int32) (b : Nat → Nat → Nat → Int32) (a : zGA) (g : Nat → Int32) (d : Nat → Nat → Int32) (hx14 : x < 14) (hk14 : k ≤ 14) (hk1 : 1 ≤ k) (hz0 : ∀ i, i < 14 → zHz (h i)) : zMet l G yX3_recall wsX3_recall rmX3_recall [.ref q, .ref a.1] (mmW G q z ga k x h b ++ gmW G a g d) none (mmW G q z ga (k - 1) (zPv x) h b ++ gmW G a (h (zPv x)) (b (zPv x))) := by
  refine zMet_of (cc := cX3_recall) (maxL := 2) (ret := none) (by decide) rfl (Nat.le_of_ble_eq_true rfl) ?_
  intro p e s m below meth c A ls hx hb hr hml hown hts hK hA hE hlocks hin hM hl
  have hown : s.vm.findClass RX3 = some m.cls := hown
  have hl : lv_has ls 2 [(0, .ref q), (1, .ref a.1)] := hl
  have hy14 : zPv x < 14 := by unfold zPv; split <;> omega
  have hM : zM G A s s.heap [] ([(q, .inr (3, [.ref z, .int (nI k), .int (nI x)])), (z, .inl (G.2 4, 14, .inr (.inr (.inr (.inr (fun i => some (ga i).1))))))] ++ ((fm 14 (gsF G ga h b)) ++ (gmW G a g d))) := zM_perm (by rw [List.append_assoc]) hM
  refine lv_aload_n hx hb dX3_recall_0 rfl (lv_at hl 0 rfl) ?_
  refine lv_aload_n hx hb dX3_recall_1 rfl (lv_at hl 0 rfl) ?_
  refine z_get (ci := 3) (v := .int (nI x)) (C := RX3) (T := TX3) (N := 3) hx hb hts (by decide +kernel) hown hK hM 0 rfl rfl 2 (by decide) (hts (.fieldLink RX3 22 "ShiftIsles$Memory" "next" "I") (by decide +kernel)) (fun _ h9 => h9) rfl dX3_recall_2 ?_
  refine lv_if_le (tgt := 17) hx hb dX3_recall_5 (by decide) (fun c_x => ?_) (fun c_x => ?_)
  · have hy : zPv x = 13 := by unfold zPv; rw [if_neg (fun q => absurd c_x (nI_nle q (by omega)))]
    refine lv_bipush (v := nI 13) hx hb dX3_recall_17 (by decide) ?_
    refine z_topi (y := nI (zPv x)) (by rw [hy]) ?_
    refine z_put (ci := 3) (ty := .int) (v := .int (nI (zPv x))) (C := RX3) (T := TX3) (N := 3) (ws' := [(q, .inr (3, [.ref z, .int (nI k), .int (nI (zPv x))])), (z, .inl (G.2 4, 14, .inr (.inr (.inr (.inr (fun i => some (ga i).1))))))] ++ ((fm 14 (gsF G ga h b)) ++ (gmW G a g d))) hx hb hts (by decide +kernel) tyX3 tyX3_ok nmX3 hown hK hM 0 rfl rfl 2 (by decide) (hts (.fieldLink RX3 22 "ShiftIsles$Memory" "next" "I") (by decide +kernel)) (fun _ h9 => h9) rfl (by decide +kernel) rfl rfl (Nat.le_of_ble_eq_true rfl) dX3_recall_19 rfl (fun H locs hM => ?_)
    refine lv_aload_n hx hb dX3_recall_22 rfl (lv_at hl 0 rfl) ?_
    refine lv_dup hx hb dX3_recall_23 rfl ?_
    refine z_get (ci := 3) (v := .int (nI k)) (C := RX3) (T := TX3) (N := 3) hx hb hts (by decide +kernel) hown hK hM 0 rfl rfl 1 (by decide) (hts (.fieldLink RX3 18 "ShiftIsles$Memory" "count" "I") (by decide +kernel)) (fun _ h9 => h9) rfl dX3_recall_24 ?_
    refine lv_iconst (v := nI 1) hx hb dX3_recall_27 (by decide) ?_
    refine lv_isub hx hb dX3_recall_28 ?_
    rw [pk_sub (a := k) (b := 1) hk1]
    refine z_put (ci := 3) (ty := .int) (v := .int (nI (k - 1))) (C := RX3) (T := TX3) (N := 3) (ws' := [(q, .inr (3, [.ref z, .int (nI (k - 1)), .int (nI (zPv x))])), (z, .inl (G.2 4, 14, .inr (.inr (.inr (.inr (fun i => some (ga i).1))))))] ++ ((fm 14 (gsF G ga h b)) ++ (gmW G a g d))) hx hb hts (by decide +kernel) tyX3 tyX3_ok nmX3 hown hK hM 0 rfl rfl 1 (by decide) (hts (.fieldLink RX3 18 "ShiftIsles$Memory" "count" "I") (by decide +kernel)) (fun _ h9 => h9) rfl (by decide +kernel) rfl rfl (Nat.le_of_ble_eq_true rfl) dX3_recall_29 rfl (fun H locs hM => ?_)
    refine lv_aload_n hx hb dX3_recall_32 rfl (lv_at hl 0 rfl) ?_
    refine z_get (ci := 3) (v := .int (nI (zPv x))) (C := RX3) (T := TX3) (N := 3) hx hb hts (by decide +kernel) hown hK hM 0 rfl rfl 2 (by decide) (hts (.fieldLink RX3 22 "ShiftIsles$Memory" "next" "I") (by decide +kernel)) (fun _ h9 => h9) rfl dX3_recall_33 ?_
    refine lv_bipush (v := nI 14) hx hb dX3_recall_36 (by decide) ?_
    refine lv_icmp_ge (tgt := 54) hx hb dX3_recall_38 (by decide) (fun c_1 => absurd c_1 (nI_ge hy14 (by decide))) (fun c_1 => ?_)
    refine lv_aload_n hx hb dX3_recall_41 rfl (lv_at hl 1 rfl) ?_
    refine lv_aload_n hx hb dX3_recall_42 rfl (lv_at hl 0 rfl) ?_
    refine z_get (ci := 3) (v := .ref z) (C := RX3) (T := TX3) (N := 3) hx hb hts (by decide +kernel) hown hK hM 0 rfl rfl 0 (by decide) (hts (.fieldLink RX3 11 "ShiftIsles$Memory" "states" "[LShiftIsles$Game;") (by decide +kernel)) (fun _ h9 => h9) rfl dX3_recall_43 ?_
    refine lv_aload_n hx hb dX3_recall_46 rfl (lv_at hl 0 rfl) ?_
    refine z_get (ci := 3) (v := .int (nI (zPv x))) (C := RX3) (T := TX3) (N := 3) hx hb hts (by decide +kernel) hown hK hM 0 rfl rfl 2 (by decide) (hts (.fieldLink RX3 22 "ShiftIsles$Memory" "next" "I") (by decide +kernel)) (fun _ h9 => h9) rfl dX3_recall_47 ?_
    refine z_aald hx hb hK hM 1 4 rfl rfl (v := (ga (zPv x)).1) (vp_in_nI (by omega) (by decide)) (by rw [nI_clamp (by omega)]) dX3_recall_50 ?_
    have hp9 : List.Perm ([(q, .inr (3, [.ref z, .int (nI (k - 1)), .int (nI (zPv x))])), (z, .inl (G.2 4, 14, .inr (.inr (.inr (.inr (fun i => some (ga i).1))))))] ++ ((fm 14 (gsF G ga h b)) ++ (gmW G a g d)) : va_W) ((gmW G a g d ++ gmW G (ga (zPv x)) (h (zPv x)) (b (zPv x))) ++ ([(q, .inr (3, [.ref z, .int (nI (k - 1)), .int (nI (zPv x))])), (z, .inl (G.2 4, 14, .inr (.inr (.inr (.inr (fun i => some (ga i).1))))))] ++ fmR 14 (gsF G ga h b) (zPv x))) := gs_pm2 (X := [(q, .inr (3, [.ref z, .int (nI (k - 1)), .int (nI (zPv x))])), (z, .inl (G.2 4, 14, .inr (.inr (.inr (.inr (fun i => some (ga i).1))))))]) hy14
    have hq9 : List.Perm ((gmW G a (h (zPv x)) (b (zPv x)) ++ gmW G (ga (zPv x)) (h (zPv x)) (b (zPv x))) ++ ([(q, .inr (3, [.ref z, .int (nI (k - 1)), .int (nI (zPv x))])), (z, .inl (G.2 4, 14, .inr (.inr (.inr (.inr (fun i => some (ga i).1))))))] ++ fmR 14 (gsF G ga h b) (zPv x))) ([(q, .inr (3, [.ref z, .int (nI (k - 1)), .int (nI (zPv x))])), (z, .inl (G.2 4, 14, .inr (.inr (.inr (.inr (fun i => some (ga i).1))))))] ++ ((fm 14 (gsF G ga h b)) ++ (gmW G a (h (zPv x)) (b (zPv x)))) : va_W) := (gs_pm2 (X := [(q, .inr (3, [.ref z, .int (nI (k - 1)), .int (nI (zPv x))])), (z, .inl (G.2 4, 14, .inr (.inr (.inr (.inr (fun i => some (ga i).1))))))]) hy14).symm
    refine z_callV (As := [.ref ((ga (zPv x)).1)]) (rest := []) (wc := gmW G a g d ++ gmW G (ga (zPv x)) (h (zPv x)) (b (zPv x))) (wr := [(q, .inr (3, [.ref z, .int (nI (k - 1)), .int (nI (zPv x))])), (z, .inl (G.2 4, 14, .inr (.inr (.inr (.inr (fun i => some (ga i).1))))))] ++ fmR 14 (gsF G ga h b) (zPv x)) (w1 := gmW G a (h (zPv x)) (b (zPv x)) ++ gmW G (ga (zPv x)) (h (zPv x)) (b (zPv x))) (ws' := [(q, .inr (3, [.ref z, .int (nI (k - 1)), .int (nI (zPv x))])), (z, .inl (G.2 4, 14, .inr (.inr (.inr (.inr (fun i => some (ga i).1))))))] ++ ((fm 14 (gsF G ga h b)) ++ (gmW G a (h (zPv x)) (b (zPv x))))) ⟨hx, hb, hml, hown, hts⟩ (c_gmCopy l G a (ga (zPv x)) g (h (zPv x)) d (b (zPv x)) (hz0 _ hy14).1 (hz0 _ hy14).2) (cwV 1 hts gX3_recall_X2_copyFrom rfl rfl rfl (by decide +kernel) ⟨Nat.le_of_ble_eq_true rfl, Nat.le_of_ble_eq_true rfl⟩) 2 rfl rfl rfl rfl hl.1 rfl (Nat.le_of_ble_eq_true rfl) dX3_recall_51 ⟨Nat.le_of_ble_eq_true rfl, Nat.le_of_ble_eq_true rfl⟩ hK hE hA hM hp9 hq9 (fun H locs hM hz => ?_)
    exact z_vret hx hb hr hlocks dX3_recall_54 (zM_perm (by rw [List.append_assoc]) hM) (Nat.le_of_ble_eq_true rfl) (Nat.le_of_ble_eq_true rfl)
  · have hx0 : 0 < x := Nat.pos_of_ne_zero (fun q => c_x (by rw [q]; decide)); have hy : zPv x = x - 1 := by unfold zPv; rw [if_pos hx0]
    refine lv_aload_n hx hb dX3_recall_8 rfl (lv_at hl 0 rfl) ?_
    refine z_get (ci := 3) (v := .int (nI x)) (C := RX3) (T := TX3) (N := 3) hx hb hts (by decide +kernel) hown hK hM 0 rfl rfl 2 (by decide) (hts (.fieldLink RX3 22 "ShiftIsles$Memory" "next" "I") (by decide +kernel)) (fun _ h9 => h9) rfl dX3_recall_9 ?_
    refine lv_iconst (v := nI 1) hx hb dX3_recall_12 (by decide) ?_
    refine lv_isub hx hb dX3_recall_13 ?_
    rw [pk_sub (a := x) (b := 1) (by omega)]
    refine lv_goto (tgt := 19) hx hb dX3_recall_14 (by decide) ?_
    refine z_topi (y := nI (zPv x)) (by rw [hy]) ?_
    refine z_put (ci := 3) (ty := .int) (v := .int (nI (zPv x))) (C := RX3) (T := TX3) (N := 3) (ws' := [(q, .inr (3, [.ref z, .int (nI k), .int (nI (zPv x))])), (z, .inl (G.2 4, 14, .inr (.inr (.inr (.inr (fun i => some (ga i).1))))))] ++ ((fm 14 (gsF G ga h b)) ++ (gmW G a g d))) hx hb hts (by decide +kernel) tyX3 tyX3_ok nmX3 hown hK hM 0 rfl rfl 2 (by decide) (hts (.fieldLink RX3 22 "ShiftIsles$Memory" "next" "I") (by decide +kernel)) (fun _ h9 => h9) rfl (by decide +kernel) rfl rfl (Nat.le_of_ble_eq_true rfl) dX3_recall_19 rfl (fun H locs hM => ?_)
    refine lv_aload_n hx hb dX3_recall_22 rfl (lv_at hl 0 rfl) ?_
    refine lv_dup hx hb dX3_recall_23 rfl ?_
    refine z_get (ci := 3) (v := .int (nI k)) (C := RX3) (T := TX3) (N := 3) hx hb hts (by decide +kernel) hown hK hM 0 rfl rfl 1 (by decide) (hts (.fieldLink RX3 18 "ShiftIsles$Memory" "count" "I") (by decide +kernel)) (fun _ h9 => h9) rfl dX3_recall_24 ?_
    refine lv_iconst (v := nI 1) hx hb dX3_recall_27 (by decide) ?_
    refine lv_isub hx hb dX3_recall_28 ?_
    rw [pk_sub (a := k) (b := 1) hk1]
    refine z_put (ci := 3) (ty := .int) (v := .int (nI (k - 1))) (C := RX3) (T := TX3) (N := 3) (ws' := [(q, .inr (3, [.ref z, .int (nI (k - 1)), .int (nI (zPv x))])), (z, .inl (G.2 4, 14, .inr (.inr (.inr (.inr (fun i => some (ga i).1))))))] ++ ((fm 14 (gsF G ga h b)) ++ (gmW G a g d))) hx hb hts (by decide +kernel) tyX3 tyX3_ok nmX3 hown hK hM 0 rfl rfl 1 (by decide) (hts (.fieldLink RX3 18 "ShiftIsles$Memory" "count" "I") (by decide +kernel)) (fun _ h9 => h9) rfl (by decide +kernel) rfl rfl (Nat.le_of_ble_eq_true rfl) dX3_recall_29 rfl (fun H locs hM => ?_)
    refine lv_aload_n hx hb dX3_recall_32 rfl (lv_at hl 0 rfl) ?_
    refine z_get (ci := 3) (v := .int (nI (zPv x))) (C := RX3) (T := TX3) (N := 3) hx hb hts (by decide +kernel) hown hK hM 0 rfl rfl 2 (by decide) (hts (.fieldLink RX3 22 "ShiftIsles$Memory" "next" "I") (by decide +kernel)) (fun _ h9 => h9) rfl dX3_recall_33 ?_
    refine lv_bipush (v := nI 14) hx hb dX3_recall_36 (by decide) ?_
    refine lv_icmp_ge (tgt := 54) hx hb dX3_recall_38 (by decide) (fun c_2 => absurd c_2 (nI_ge hy14 (by decide))) (fun c_2 => ?_)
    refine lv_aload_n hx hb dX3_recall_41 rfl (lv_at hl 1 rfl) ?_
    refine lv_aload_n hx hb dX3_recall_42 rfl (lv_at hl 0 rfl) ?_
    refine z_get (ci := 3) (v := .ref z) (C := RX3) (T := TX3) (N := 3) hx hb hts (by decide +kernel) hown hK hM 0 rfl rfl 0 (by decide) (hts (.fieldLink RX3 11 "ShiftIsles$Memory" "states" "[LShiftIsles$Game;") (by decide +kernel)) (fun _ h9 => h9) rfl dX3_recall_43 ?_
    refine lv_aload_n hx hb dX3_recall_46 rfl (lv_at hl 0 rfl) ?_
    refine z_get (ci := 3) (v := .int (nI (zPv x))) (C := RX3) (T := TX3) (N := 3) hx hb hts (by decide +kernel) hown hK hM 0 rfl rfl 2 (by decide) (hts (.fieldLink RX3 22 "ShiftIsles$Memory" "next" "I") (by decide +kernel)) (fun _ h9 => h9) rfl dX3_recall_47 ?_
    refine z_aald hx hb hK hM 1 4 rfl rfl (v := (ga (zPv x)).1) (vp_in_nI (by omega) (by decide)) (by rw [nI_clamp (by omega)]) dX3_recall_50 ?_
    have hp9 : List.Perm ([(q, .inr (3, [.ref z, .int (nI (k - 1)), .int (nI (zPv x))])), (z, .inl (G.2 4, 14, .inr (.inr (.inr (.inr (fun i => some (ga i).1))))))] ++ ((fm 14 (gsF G ga h b)) ++ (gmW G a g d)) : va_W) ((gmW G a g d ++ gmW G (ga (zPv x)) (h (zPv x)) (b (zPv x))) ++ ([(q, .inr (3, [.ref z, .int (nI (k - 1)), .int (nI (zPv x))])), (z, .inl (G.2 4, 14, .inr (.inr (.inr (.inr (fun i => some (ga i).1))))))] ++ fmR 14 (gsF G ga h b) (zPv x))) := gs_pm2 (X := [(q, .inr (3, [.ref z, .int (nI (k - 1)), .int (nI (zPv x))])), (z, .inl (G.2 4, 14, .inr (.inr (.inr (.inr (fun i => some (ga i).1))))))]) hy14
    have hq9 : List.Perm ((gmW G a (h (zPv x)) (b (zPv x)) ++ gmW G (ga (zPv x)) (h (zPv x)) (b (zPv x))) ++ ([(q, .inr (3, [.ref z, .int (nI (k - 1)), .int (nI (zPv x))])), (z, .inl (G.2 4, 14, .inr (.inr (.inr (.inr (fun i => some (ga i).1))))))] ++ fmR 14 (gsF G ga h b) (zPv x))) ([(q, .inr (3, [.ref z, .int (nI (k - 1)), .int (nI (zPv x))])), (z, .inl (G.2 4, 14, .inr (.inr (.inr (.inr (fun i => some (ga i).1))))))] ++ ((fm 14 (gsF G ga h b)) ++ (gmW G a (h (zPv x)) (b (zPv x)))) : va_W) := (gs_pm2 (X := [(q, .inr (3, [.ref z, .int (nI (k - 1)), .int (nI (zPv x))])), (z, .inl (G.2 4, 14, .inr (.inr (.inr (.inr (fun i => some (ga i).1))))))]) hy14).symm
    refine z_callV (As := [.ref ((ga (zPv x)).1)]) (rest := []) (wc := gmW G a g d ++ gmW G (ga (zPv x)) (h (zPv x)) (b (zPv x))) (wr := [(q, .inr (3, [.ref z, .int (nI (k - 1)), .int (nI (zPv x))])), (z, .inl (G.2 4, 14, .inr (.inr (.inr (.inr (fun i => some (ga i).1))))))] ++ fmR 14 (gsF G ga h b) (zPv x)) (w1 := gmW G a (h (zPv x)) (b (zPv x)) ++ gmW G (ga (zPv x)) (h (zPv x)) (b (zPv x))) (ws' := [(q, .inr (3, [.ref z, .int (nI (k - 1)), .int (nI (zPv x))])), (z, .inl (G.2 4, 14, .inr (.inr (.inr (.inr (fun i => some (ga i).1))))))] ++ ((fm 14 (gsF G ga h b)) ++ (gmW G a (h (zPv x)) (b (zPv x))))) ⟨hx, hb, hml, hown, hts⟩ (c_gmCopy l G a (ga (zPv x)) g (h (zPv x)) d (b (zPv x)) (hz0 _ hy14).1 (hz0 _ hy14).2) (cwV 1 hts gX3_recall_X2_copyFrom rfl rfl rfl (by decide +kernel) ⟨Nat.le_of_ble_eq_true rfl, Nat.le_of_ble_eq_true rfl⟩) 2 rfl rfl rfl rfl hl.1 rfl (Nat.le_of_ble_eq_true rfl) dX3_recall_51 ⟨Nat.le_of_ble_eq_true rfl, Nat.le_of_ble_eq_true rfl⟩ hK hE hA hM hp9 hq9 (fun H locs hM hz => ?_)
    exact z_vret hx hb hr hlocks dX3_recall_54 (zM_perm (by rw [List.append_assoc]) hM) (Nat.le_of_ble_eq_true rfl) (Nat.le_of_ble_eq_true rfl)
