/-! PURE: a game: its head h (0 players, 1 turn, 2 shifted, 3 ended, 4 over, 5 winner, 6-8 settings) and its boards b -/
abbrev zGA : Type := Nat × Nat × Nat × (Nat → zBA)
abbrev bdsW (G : zC) (B : Nat → zBA) (b : Nat → Nat → Int32) : va_W := bdW G (B 0) (b 0) ++ (bdW G (B 1) (b 1) ++ (bdW G (B 2) (b 2) ++ bdW G (B 3) (b 3)))
abbrev gmX (G : zC) (a : zGA) (h : Nat → Int32) : va_W := [(a.1, .inr (2, [.ref a.2.1, .ref a.2.2.1, .int (h 0), .int (h 1), .int (h 2), .int (h 3), .int (h 4), .int (h 5)])), (a.2.1, .inl (G.2 1, 3, .inl (fun i => h (6 + i)))), (a.2.2.1, .inl (G.2 3, 4, .inr (.inr (.inr (.inr (fun p => some (a.2.2.2 p).1))))))]
abbrev gmW (G : zC) (a : zGA) (h : Nat → Int32) (b : Nat → Nat → Int32) : va_W := gmX G a h ++ bdsW G a.2.2.2 b
def bdsR (G : zC) (B : Nat → zBA) (b : Nat → Nat → Int32) : Nat → va_W
  | 0 => bdW G (B 1) (b 1) ++ (bdW G (B 2) (b 2) ++ bdW G (B 3) (b 3))
  | 1 => bdW G (B 0) (b 0) ++ (bdW G (B 2) (b 2) ++ bdW G (B 3) (b 3))
  | 2 => bdW G (B 0) (b 0) ++ (bdW G (B 1) (b 1) ++ bdW G (B 3) (b 3))
  | _ => bdW G (B 0) (b 0) ++ (bdW G (B 1) (b 1) ++ bdW G (B 2) (b 2))
theorem pm_l {a b c : va_W} : (a ++ (b ++ c)).Perm (b ++ (a ++ c)) := by
  rw [← List.append_assoc, ← List.append_assoc]
  exact List.Perm.append_right c List.perm_append_comm
theorem pm_mid {w c r : va_W} (X : va_W) (h : w.Perm (c ++ r)) : (X ++ w).Perm (c ++ (X ++ r)) := (List.Perm.append_left X h).trans pm_l
theorem bds_pm {G : zC} {B : Nat → zBA} {b : Nat → Nat → Int32} {p : Nat} (hp : p < 4) : (bdsW G B b).Perm (bdW G (B p) (b p) ++ bdsR G B b p) := by
  have h4 : p = 0 ∨ p = 1 ∨ p = 2 ∨ p = 3 := by omega
  rcases h4 with rfl | rfl | rfl | rfl
  · exact List.Perm.refl _
  · exact pm_l
  · exact (List.Perm.append_left _ pm_l).trans pm_l
  · refine (List.Perm.append_left _ (List.Perm.append_left _ List.perm_append_comm)).trans ?_
    exact (List.Perm.append_left _ pm_l).trans pm_l
theorem bdsR_up {G : zC} {B : Nat → zBA} {b : Nat → Nat → Int32} {p : Nat} {f : Nat → Int32} (hp : p < 4) : bdsR G B (va_up b p f) p = bdsR G B b p := by
  have h4 : p = 0 ∨ p = 1 ∨ p = 2 ∨ p = 3 := by omega
  rcases h4 with rfl | rfl | rfl | rfl <;> rfl
theorem bds_pu {G : zC} {B : Nat → zBA} {b : Nat → Nat → Int32} {p : Nat} {f : Nat → Int32} (hp : p < 4) : (bdW G (B p) f ++ bdsR G B b p).Perm (bdsW G B (va_up b p f)) := by
  have h := bds_pm (G := G) (B := B) (b := va_up b p f) hp
  rw [bdsR_up hp] at h
  have e : va_up b p f p = f := by simp [va_up]
  rw [e] at h
  exact h.symm
theorem gm_fold {G : zC} {a : zGA} {H : Nat → Int32} {b : Nat → Nat → Int32} {x0 x1 x2 x3 x4 x5 : Int32} {st : Nat → Int32} (h0 : x0 = H 0) (h1 : x1 = H 1) (h2 : x2 = H 2) (h3 : x3 = H 3) (h4 : x4 = H 4) (h5 : x5 = H 5) (hs : ∀ i, i < 3 → st i = H (6 + i)) : zSim ([(a.1, .inr (2, [.ref a.2.1, .ref a.2.2.1, .int x0, .int x1, .int x2, .int x3, .int x4, .int x5])), (a.2.1, .inl (G.2 1, 3, .inl st)), (a.2.2.1, .inl (G.2 3, 4, .inr (.inr (.inr (.inr (fun p => some (a.2.2.2 p).1))))))] ++ bdsW G a.2.2.2 b) (gmW G a H b) := by
  subst h0 h1 h2 h3 h4 h5
  exact ⟨zSame_rf _, zSame_arr hs, zSame_rf _, zSim_rf _⟩
def zGw (h : Nat → Int32) (P t S : Nat) : Prop := h 0 = nI P ∧ P ≤ 4 ∧ h 1 = nI t ∧ t < 4 ∧ h 6 = nI S ∧ S ≤ 9 ∧ (h 2 = 0 ∨ h 2 = 1) ∧ (h 4 = 0 ∨ h 4 = 1)
def zHp (h : Nat → Int32) (p : Int32) : Bool := !decide (p < 0) && !decide (h 0 ≤ p)
theorem zHp_lt {h : Nat → Int32} {P k : Nat} (e : h 0 = nI P) (hP : P ≤ 4) (hk : k < 2 ^ 31) : zHp h (nI k) = true ↔ k < P := by
  simp only [zHp, Bool.and_eq_true, Bool.not_eq_true', decide_eq_false_iff_not, e]
  constructor
  · intro q
    exact Nat.not_le.mp (fun z => q.2 ((nI_leI (by omega) hk).mpr z))
  · intro q
    exact ⟨nI_pos hk, nI_ge q (by omega)⟩
def zRu (h : Nat → Int32) : Bool := !decide (h 0 ≤ 0) && decide (h 4 = 0)
def zMs (h : Nat → Int32) (b : Nat → Nat → Int32) (k : Nat) (n d : Int32) : Bool := zRu h && decide (h 2 = 0) && zHp h (nI k) && !decide (nI k = h 1) && zLi n && zDi d && zAl (b k) n d
def zShH (h : Nat → Int32) : Nat → Int32 := upd h 2 1
def zShB (b : Nat → Nat → Int32) (k n : Nat) (d : Int32) : Nat → Nat → Int32 := va_up b k (zMv (b k) n d)
def zTsH (h : Nat → Int32) (b : Nat → Nat → Int32) (k n : Nat) (d : Int32) : Nat → Int32 := if zMs h b k (nI n) d = true then zShH h else h
def zTsB (h : Nat → Int32) (b : Nat → Nat → Int32) (k n : Nat) (d : Int32) : Nat → Nat → Int32 := if zMs h b k (nI n) d = true then zShB b k n d else b
def zMe (h : Nat → Int32) : Bool := zRu h && !decide (h 2 = 0)
def zRs (h : Nat → Int32) (b : Nat → Nat → Int32) (S k : Nat) (n : Int32) : Bool := zHp h (nI k) && zIn (zRch (b k) S) n
def zMg (h : Nat → Int32) (b : Nat → Nat → Int32) (S t : Nat) (n : Int32) : Bool := zMe h && zRs h b S t n
def zNt (t P : Nat) : Nat := if t + 1 < P then t + 1 else 0
theorem zNt_lt {t P : Nat} (ht : t < 4) (hP : P ≤ 4) : zNt t P < 4 := by unfold zNt; split <;> omega
def zEtH (h : Nat → Int32) (b : Nat → Nat → Int32) (t P : Nat) : Nat → Int32 :=
  if b t 23 < h 7 then (if h 3 + 1 < h 8 then upd (upd (upd h 2 0) 3 (h 3 + 1)) 1 (nI (zNt t P)) else upd (upd (upd h 2 0) 3 (h 3 + 1)) 4 1)
  else upd (upd (upd (upd h 2 0) 3 (h 3 + 1)) 4 1) 5 (h 1)
def zEtB (h : Nat → Int32) (b : Nat → Nat → Int32) (t P : Nat) : Nat → Nat → Int32 :=
  if b t 23 < h 7 then (if h 3 + 1 < h 8 then va_up b (zNt t P) (upd (b (zNt t P)) 25 (-1)) else b) else b
def zGoB (b : Nat → Nat → Int32) (t n : Nat) : Nat → Nat → Int32 := va_up b t (zLd (b t) n)
def zLkB (b : Nat → Nat → Int32) (t : Nat) (n : Int32) : Nat → Nat → Int32 := va_up b t (upd (b t) 25 n)
def zTk (b : Nat → Nat → Int32) : Nat → Nat → Int32 → Int32
  | 0, _, x => x
  | k + 1, i, x => zTk b k (i + 1) (x + b i 23)
def zSg (i : Nat) (s : Int64 × (Nat → Nat → Int32)) : Int64 × (Nat → Nat → Int32) := (zDx (s.2 i) s.1, va_up s.2 i (zDl (s.2 i) s.1))
theorem zSg_e (i : Nat) (y : Int64) (b : Nat → Nat → Int32) : zSg i (y, b) = (zDx (b i) y, va_up b i (zDl (b i) y)) := rfl
def zGd (n : Nat) (x : Int64) (b : Nat → Nat → Int32) : Int64 × (Nat → Nat → Int32) := zIt zSg n 0 (x, b)
theorem zGd_e (n : Nat) (x : Int64) (b : Nat → Nat → Int32) : zGd n x b = zIt zSg n 0 (x, b) := rfl
def zGdH (h : Nat → Int32) (n : Nat) : Nat → Int32 := upd (upd (upd (upd (upd (upd h 0 (nI n)) 1 0) 2 0) 3 0) 4 0) 5 (-1)
theorem pm_mu {c r w : va_W} (X : va_W) (h : (c ++ r).Perm w) : (c ++ (X ++ r)).Perm (X ++ w) := pm_l.trans (List.Perm.append_left X h)
theorem zSe_nI {k : Nat} (h : k < 3) : zSe (nI k) = true := by
  simp only [zSe, Bool.and_eq_true, Bool.not_eq_true', decide_eq_false_iff_not]
  exact ⟨nI_pos (by omega), nI_ge h (by decide)⟩
theorem zLi_lt {n : Nat} (hn : n < 2 ^ 31) (h : zLi (nI n) = true) : n < 6 := by
  simp only [zLi, Bool.and_eq_true, Bool.not_eq_true', decide_eq_false_iff_not] at h
  exact Nat.not_le.mp (fun q => h.2 (nI_le q hn))
theorem zPl_lt {n : Nat} (hn : n < 2 ^ 31) (h : zPl (nI n) = true) : n < 9 := by
  simp only [zPl, Bool.and_eq_true, Bool.not_eq_true', decide_eq_false_iff_not] at h
  exact Nat.not_le.mp (fun q => h.2 (nI_le q hn))
theorem zMs_lt {h : Nat → Int32} {b : Nat → Nat → Int32} {k n P t S : Nat} {d : Int32} (hw : zGw h P t S) (hk9 : k < 1000) (hn9 : n < 1000) (hm : zMs h b k (nI n) d = true) : k < 4 ∧ n < 6 := by
  obtain ⟨hP, hP4, -⟩ := hw
  simp only [zMs, Bool.and_eq_true] at hm
  have h1 := (zHp_lt hP hP4 (by omega)).mp hm.1.1.1.1.2
  exact ⟨by omega, zLi_lt (by omega) hm.1.1.2⟩
theorem zMg_lt {h : Nat → Int32} {b : Nat → Nat → Int32} {n S t : Nat} (hn9 : n < 1000) (hm : zMg h b S t (nI n) = true) : n < 9 := by
  simp only [zMg, zRs, zIn, Bool.and_eq_true] at hm
  exact zPl_lt (by omega) hm.2.2.1
set_option maxHeartbeats 4000000 in
set_option maxRecDepth 100000 in
theorem c_g_players (l : Launch) (G : zC) (a : zGA) (h : Nat → Int32) (b : Nat → Nat → Int32) : zMet l G yX2_players wsX2_players rmX2_players [.ref a.1] (gmW G a h b) (some (.int (h 0))) (gmW G a h b) := by
  refine zMet_of (cc := cX2_players) (maxL := 1) (ret := (some .int)) (by decide) rfl (Nat.le_of_ble_eq_true rfl) ?_
  intro p e s m below meth c A ls hx hb hr hml hown hts hK hA hE hlocks hin hM hl
  have hown : s.vm.findClass RX2 = some m.cls := hown
  have hM : zM G A s s.heap [] ([(a.1, .inr (2, [.ref a.2.1, .ref a.2.2.1, .int (h 0), .int (h 1), .int (h 2), .int (h 3), .int (h 4), .int (h 5)])), (a.2.1, .inl (G.2 1, 3, .inl (fun i => h (6 + i)))), (a.2.2.1, .inl (G.2 3, 4, .inr (.inr (.inr (.inr (fun p => some (a.2.2.2 p).1))))))] ++ (bdsW G a.2.2.2 b)) := hM
  have hl : lv_has ls 1 [(0, .ref a.1)] := hl
  refine lv_aload_n hx hb dX2_players_0 rfl (lv_at hl 0 rfl) ?_
  refine z_get (ci := 2) (v := .int (h 0)) (C := RX2) (T := TX2) (N := 8) hx hb hts (by decide +kernel) hown hK hM 0 rfl rfl 2 (by decide) (hts (.fieldLink RX2 39 "ShiftIsles$Game" "players" "I") (by decide +kernel)) (fun _ h9 => h9) rfl dX2_players_1 ?_
  exact z_iret hx hb hr hlocks dX2_players_4 hM (Nat.le_of_ble_eq_true rfl) (Nat.le_of_ble_eq_true rfl) rfl

set_option maxHeartbeats 4000000 in
set_option maxRecDepth 100000 in
theorem c_g_ended (l : Launch) (G : zC) (a : zGA) (h : Nat → Int32) (b : Nat → Nat → Int32) : zMet l G yX2_ended wsX2_ended rmX2_ended [.ref a.1] (gmW G a h b) (some (.int (h 3))) (gmW G a h b) := by
  refine zMet_of (cc := cX2_ended) (maxL := 1) (ret := (some .int)) (by decide) rfl (Nat.le_of_ble_eq_true rfl) ?_
  intro p e s m below meth c A ls hx hb hr hml hown hts hK hA hE hlocks hin hM hl
  have hown : s.vm.findClass RX2 = some m.cls := hown
  have hM : zM G A s s.heap [] ([(a.1, .inr (2, [.ref a.2.1, .ref a.2.2.1, .int (h 0), .int (h 1), .int (h 2), .int (h 3), .int (h 4), .int (h 5)])), (a.2.1, .inl (G.2 1, 3, .inl (fun i => h (6 + i)))), (a.2.2.1, .inl (G.2 3, 4, .inr (.inr (.inr (.inr (fun p => some (a.2.2.2 p).1))))))] ++ (bdsW G a.2.2.2 b)) := hM
  have hl : lv_has ls 1 [(0, .ref a.1)] := hl
  refine lv_aload_n hx hb dX2_ended_0 rfl (lv_at hl 0 rfl) ?_
  refine z_get (ci := 2) (v := .int (h 3)) (C := RX2) (T := TX2) (N := 8) hx hb hts (by decide +kernel) hown hK hM 0 rfl rfl 5 (by decide) (hts (.fieldLink RX2 49 "ShiftIsles$Game" "ended" "I") (by decide +kernel)) (fun _ h9 => h9) rfl dX2_ended_1 ?_
  exact z_iret hx hb hr hlocks dX2_ended_4 hM (Nat.le_of_ble_eq_true rfl) (Nat.le_of_ble_eq_true rfl) rfl

set_option maxHeartbeats 4000000 in
set_option maxRecDepth 100000 in
theorem c_g_winner (l : Launch) (G : zC) (a : zGA) (h : Nat → Int32) (b : Nat → Nat → Int32) : zMet l G yX2_winner wsX2_winner rmX2_winner [.ref a.1] (gmW G a h b) (some (.int (h 5))) (gmW G a h b) := by
  refine zMet_of (cc := cX2_winner) (maxL := 1) (ret := (some .int)) (by decide) rfl (Nat.le_of_ble_eq_true rfl) ?_
  intro p e s m below meth c A ls hx hb hr hml hown hts hK hA hE hlocks hin hM hl
  have hown : s.vm.findClass RX2 = some m.cls := hown
  have hM : zM G A s s.heap [] ([(a.1, .inr (2, [.ref a.2.1, .ref a.2.2.1, .int (h 0), .int (h 1), .int (h 2), .int (h 3), .int (h 4), .int (h 5)])), (a.2.1, .inl (G.2 1, 3, .inl (fun i => h (6 + i)))), (a.2.2.1, .inl (G.2 3, 4, .inr (.inr (.inr (.inr (fun p => some (a.2.2.2 p).1))))))] ++ (bdsW G a.2.2.2 b)) := hM
  have hl : lv_has ls 1 [(0, .ref a.1)] := hl
  refine lv_aload_n hx hb dX2_winner_0 rfl (lv_at hl 0 rfl) ?_
  refine z_get (ci := 2) (v := .int (h 5)) (C := RX2) (T := TX2) (N := 8) hx hb hts (by decide +kernel) hown hK hM 0 rfl rfl 7 (by decide) (hts (.fieldLink RX2 31 "ShiftIsles$Game" "winner" "I") (by decide +kernel)) (fun _ h9 => h9) rfl dX2_winner_1 ?_
  exact z_iret hx hb hr hlocks dX2_winner_4 hM (Nat.le_of_ble_eq_true rfl) (Nat.le_of_ble_eq_true rfl) rfl

set_option maxHeartbeats 4000000 in
set_option maxRecDepth 100000 in
theorem c_g_isShifted (l : Launch) (G : zC) (a : zGA) (h : Nat → Int32) (b : Nat → Nat → Int32) (h01 : h 2 = 0 ∨ h 2 = 1) : zMet l G yX2_isShifted wsX2_isShifted rmX2_isShifted [.ref a.1] (gmW G a h b) (some (.int (h 2))) (gmW G a h b) := by
  refine zMet_of (cc := cX2_isShifted) (maxL := 1) (ret := (some .boolean)) (by decide) rfl (Nat.le_of_ble_eq_true rfl) ?_
  intro p e s m below meth c A ls hx hb hr hml hown hts hK hA hE hlocks hin hM hl
  have hown : s.vm.findClass RX2 = some m.cls := hown
  have hM : zM G A s s.heap [] ([(a.1, .inr (2, [.ref a.2.1, .ref a.2.2.1, .int (h 0), .int (h 1), .int (h 2), .int (h 3), .int (h 4), .int (h 5)])), (a.2.1, .inl (G.2 1, 3, .inl (fun i => h (6 + i)))), (a.2.2.1, .inl (G.2 3, 4, .inr (.inr (.inr (.inr (fun p => some (a.2.2.2 p).1))))))] ++ (bdsW G a.2.2.2 b)) := hM
  have hl : lv_has ls 1 [(0, .ref a.1)] := hl
  refine lv_aload_n hx hb dX2_isShifted_0 rfl (lv_at hl 0 rfl) ?_
  refine z_get (ci := 2) (v := .int (h 2)) (C := RX2) (T := TX2) (N := 8) hx hb hts (by decide +kernel) hown hK hM 0 rfl rfl 4 (by decide) (hts (.fieldLink RX2 45 "ShiftIsles$Game" "shifted" "Z") (by decide +kernel)) (fun _ h9 => h9) rfl dX2_isShifted_1 ?_
  exact z_zret hx hb hr hlocks dX2_isShifted_4 hM (Nat.le_of_ble_eq_true rfl) (Nat.le_of_ble_eq_true rfl) h01 rfl

set_option maxHeartbeats 4000000 in
set_option maxRecDepth 100000 in
theorem c_g_isOver (l : Launch) (G : zC) (a : zGA) (h : Nat → Int32) (b : Nat → Nat → Int32) (h01 : h 4 = 0 ∨ h 4 = 1) : zMet l G yX2_isOver wsX2_isOver rmX2_isOver [.ref a.1] (gmW G a h b) (some (.int (h 4))) (gmW G a h b) := by
  refine zMet_of (cc := cX2_isOver) (maxL := 1) (ret := (some .boolean)) (by decide) rfl (Nat.le_of_ble_eq_true rfl) ?_
  intro p e s m below meth c A ls hx hb hr hml hown hts hK hA hE hlocks hin hM hl
  have hown : s.vm.findClass RX2 = some m.cls := hown
  have hM : zM G A s s.heap [] ([(a.1, .inr (2, [.ref a.2.1, .ref a.2.2.1, .int (h 0), .int (h 1), .int (h 2), .int (h 3), .int (h 4), .int (h 5)])), (a.2.1, .inl (G.2 1, 3, .inl (fun i => h (6 + i)))), (a.2.2.1, .inl (G.2 3, 4, .inr (.inr (.inr (.inr (fun p => some (a.2.2.2 p).1))))))] ++ (bdsW G a.2.2.2 b)) := hM
  have hl : lv_has ls 1 [(0, .ref a.1)] := hl
  refine lv_aload_n hx hb dX2_isOver_0 rfl (lv_at hl 0 rfl) ?_
  refine z_get (ci := 2) (v := .int (h 4)) (C := RX2) (T := TX2) (N := 8) hx hb hts (by decide +kernel) hown hK hM 0 rfl rfl 6 (by decide) (hts (.fieldLink RX2 52 "ShiftIsles$Game" "over" "Z") (by decide +kernel)) (fun _ h9 => h9) rfl dX2_isOver_1 ?_
  exact z_zret hx hb hr hlocks dX2_isOver_4 hM (Nat.le_of_ble_eq_true rfl) (Nat.le_of_ble_eq_true rfl) h01 rfl

set_option maxHeartbeats 4000000 in
set_option maxRecDepth 100000 in
theorem c_hasPlayer (l : Launch) (G : zC) (a : zGA) (h : Nat → Int32) (b : Nat → Nat → Int32) (n : Int32) : zMet l G yX2_hasPlayer wsX2_hasPlayer rmX2_hasPlayer [.ref a.1, .int n] (gmW G a h b) (some (.int (zb (zHp h n)))) (gmW G a h b) := by
  refine zMet_of (cc := cX2_hasPlayer) (maxL := 2) (ret := (some .boolean)) (by decide) rfl (Nat.le_of_ble_eq_true rfl) ?_
  intro p e s m below meth c A ls hx hb hr hml hown hts hK hA hE hlocks hin hM hl
  have hown : s.vm.findClass RX2 = some m.cls := hown
  have hM : zM G A s s.heap [] ([(a.1, .inr (2, [.ref a.2.1, .ref a.2.2.1, .int (h 0), .int (h 1), .int (h 2), .int (h 3), .int (h 4), .int (h 5)])), (a.2.1, .inl (G.2 1, 3, .inl (fun i => h (6 + i)))), (a.2.2.1, .inl (G.2 3, 4, .inr (.inr (.inr (.inr (fun p => some (a.2.2.2 p).1))))))] ++ (bdsW G a.2.2.2 b)) := hM
  have hl : lv_has ls 2 [(0, .ref a.1), (1, .int n)] := hl
  refine lv_iload_n hx hb dX2_hasPlayer_0 rfl (lv_at hl 1 rfl) ?_
  refine lv_if_lt (tgt := 16) hx hb dX2_hasPlayer_1 (by decide) (fun c_1 => ?_) (fun c_1 => ?_)
  · skip
    refine lv_iconst (v := 0) hx hb dX2_hasPlayer_16 (by decide) ?_
    exact z_zret hx hb hr hlocks dX2_hasPlayer_17 hM (Nat.le_of_ble_eq_true rfl) (Nat.le_of_ble_eq_true rfl) (by first | exact Or.inl rfl | exact Or.inr rfl | exact zb_01 _) (by simp only [zb, zHp, decide_eq_true c_1] <;> rfl)
  · skip
    refine lv_iload_n hx hb dX2_hasPlayer_4 rfl (lv_at hl 1 rfl) ?_
    refine lv_aload_n hx hb dX2_hasPlayer_5 rfl (lv_at hl 0 rfl) ?_
    refine z_get (ci := 2) (v := .int (h 0)) (C := RX2) (T := TX2) (N := 8) hx hb hts (by decide +kernel) hown hK hM 0 rfl rfl 2 (by decide) (hts (.fieldLink RX2 39 "ShiftIsles$Game" "players" "I") (by decide +kernel)) (fun _ h9 => h9) rfl dX2_hasPlayer_6 ?_
    refine lv_icmp_ge (tgt := 16) hx hb dX2_hasPlayer_9 (by decide) (fun c_2 => ?_) (fun c_2 => ?_)
    · skip
      refine lv_iconst (v := 0) hx hb dX2_hasPlayer_16 (by decide) ?_
      exact z_zret hx hb hr hlocks dX2_hasPlayer_17 hM (Nat.le_of_ble_eq_true rfl) (Nat.le_of_ble_eq_true rfl) (by first | exact Or.inl rfl | exact Or.inr rfl | exact zb_01 _) (by simp only [zb, zHp, decide_eq_false c_1, decide_eq_true c_2] <;> rfl)
    · skip
      refine lv_iconst (v := 1) hx hb dX2_hasPlayer_12 (by decide) ?_
      refine lv_goto (tgt := 17) hx hb dX2_hasPlayer_13 (by decide) ?_
      exact z_zret hx hb hr hlocks dX2_hasPlayer_17 hM (Nat.le_of_ble_eq_true rfl) (Nat.le_of_ble_eq_true rfl) (by first | exact Or.inl rfl | exact Or.inr rfl | exact zb_01 _) (by simp only [zb, zHp, decide_eq_false c_1, decide_eq_false c_2] <;> rfl)

set_option maxHeartbeats 4000000 in
set_option maxRecDepth 100000 in
theorem c_boardOf (l : Launch) (G : zC) (a : zGA) (h : Nat → Int32) (b : Nat → Nat → Int32) (k : Nat) (hk : k < 4) : zMet l G yX2_boardOf wsX2_boardOf rmX2_boardOf [.ref a.1, .int (nI k)] (gmW G a h b) (some (.ref ((a.2.2.2 k).1))) (gmW G a h b) := by
  refine zMet_of (cc := cX2_boardOf) (maxL := 2) (ret := (some (.object "ShiftIsles$Board"))) (by decide) rfl (Nat.le_of_ble_eq_true rfl) ?_
  intro p e s m below meth c A ls hx hb hr hml hown hts hK hA hE hlocks hin hM hl
  have hown : s.vm.findClass RX2 = some m.cls := hown
  have hM : zM G A s s.heap [] ([(a.1, .inr (2, [.ref a.2.1, .ref a.2.2.1, .int (h 0), .int (h 1), .int (h 2), .int (h 3), .int (h 4), .int (h 5)])), (a.2.1, .inl (G.2 1, 3, .inl (fun i => h (6 + i)))), (a.2.2.1, .inl (G.2 3, 4, .inr (.inr (.inr (.inr (fun p => some (a.2.2.2 p).1))))))] ++ (bdsW G a.2.2.2 b)) := hM
  have hl : lv_has ls 2 [(0, .ref a.1), (1, .int (nI k))] := hl
  refine lv_aload_n hx hb dX2_boardOf_0 rfl (lv_at hl 0 rfl) ?_
  refine z_get (ci := 2) (v := .ref a.2.2.1) (C := RX2) (T := TX2) (N := 8) hx hb hts (by decide +kernel) hown hK hM 0 rfl rfl 1 (by decide) (hts (.fieldLink RX2 26 "ShiftIsles$Game" "boards" "[LShiftIsles$Board;") (by decide +kernel)) (fun _ h9 => h9) rfl dX2_boardOf_1 ?_
  refine lv_iload_n hx hb dX2_boardOf_4 rfl (lv_at hl 1 rfl) ?_
  refine lv_if_lt (tgt := 17) hx hb dX2_boardOf_5 (by decide) (fun c_1 => absurd c_1 (nI_pos (by omega))) (fun c_1 => ?_)
  refine lv_iload_n hx hb dX2_boardOf_8 rfl (lv_at hl 1 rfl) ?_
  refine lv_iconst (v := nI 4) hx hb dX2_boardOf_9 (by decide) ?_
  refine lv_icmp_ge (tgt := 17) hx hb dX2_boardOf_10 (by decide) (fun c_2 => absurd c_2 (nI_ge hk (by decide))) (fun c_2 => ?_)
  refine lv_iload_n hx hb dX2_boardOf_13 rfl (lv_at hl 1 rfl) ?_
  refine lv_goto (tgt := 18) hx hb dX2_boardOf_14 (by decide) ?_
  refine z_aald hx hb hK hM 2 3 rfl rfl (v := (a.2.2.2 k).1) (vp_in_nI (by omega) (by decide)) (by rw [nI_clamp (by omega)]) dX2_boardOf_18 ?_
  exact z_aret hx hb hr hlocks dX2_boardOf_19 hM (Nat.le_of_ble_eq_true rfl) (Nat.le_of_ble_eq_true rfl) rfl

set_option maxHeartbeats 4000000 in
set_option maxRecDepth 100000 in
theorem c_whoseTurn (l : Launch) (G : zC) (a : zGA) (h : Nat → Int32) (b : Nat → Nat → Int32) : zMet l G yX2_whoseTurn wsX2_whoseTurn rmX2_whoseTurn [.ref a.1] (gmW G a h b) (some (.int (if h 4 = 0 then h 1 else -1))) (gmW G a h b) := by
  refine zMet_of (cc := cX2_whoseTurn) (maxL := 1) (ret := (some .int)) (by decide) rfl (Nat.le_of_ble_eq_true rfl) ?_
  intro p e s m below meth c A ls hx hb hr hml hown hts hK hA hE hlocks hin hM hl
  have hown : s.vm.findClass RX2 = some m.cls := hown
  have hM : zM G A s s.heap [] ([(a.1, .inr (2, [.ref a.2.1, .ref a.2.2.1, .int (h 0), .int (h 1), .int (h 2), .int (h 3), .int (h 4), .int (h 5)])), (a.2.1, .inl (G.2 1, 3, .inl (fun i => h (6 + i)))), (a.2.2.1, .inl (G.2 3, 4, .inr (.inr (.inr (.inr (fun p => some (a.2.2.2 p).1))))))] ++ (bdsW G a.2.2.2 b)) := hM
  have hl : lv_has ls 1 [(0, .ref a.1)] := hl
  refine lv_aload_n hx hb dX2_whoseTurn_0 rfl (lv_at hl 0 rfl) ?_
  refine z_get (ci := 2) (v := .int (h 4)) (C := RX2) (T := TX2) (N := 8) hx hb hts (by decide +kernel) hown hK hM 0 rfl rfl 6 (by decide) (hts (.fieldLink RX2 52 "ShiftIsles$Game" "over" "Z") (by decide +kernel)) (fun _ h9 => h9) rfl dX2_whoseTurn_1 ?_
  refine lv_if_eq (tgt := 11) hx hb dX2_whoseTurn_4 (by decide) (fun c_1 => ?_) (fun c_1 => ?_)
  · skip
    refine lv_aload_n hx hb dX2_whoseTurn_11 rfl (lv_at hl 0 rfl) ?_
    refine z_get (ci := 2) (v := .int (h 1)) (C := RX2) (T := TX2) (N := 8) hx hb hts (by decide +kernel) hown hK hM 0 rfl rfl 3 (by decide) (hts (.fieldLink RX2 42 "ShiftIsles$Game" "turn" "I") (by decide +kernel)) (fun _ h9 => h9) rfl dX2_whoseTurn_12 ?_
    exact z_iret hx hb hr hlocks dX2_whoseTurn_15 hM (Nat.le_of_ble_eq_true rfl) (Nat.le_of_ble_eq_true rfl) (by simp [c_1])
  · skip
    refine lv_iconst (v := (-1)) hx hb dX2_whoseTurn_7 (by decide) ?_
    refine lv_goto (tgt := 15) hx hb dX2_whoseTurn_8 (by decide) ?_
    exact z_iret hx hb hr hlocks dX2_whoseTurn_15 hM (Nat.le_of_ble_eq_true rfl) (Nat.le_of_ble_eq_true rfl) (by simp [c_1])

set_option maxHeartbeats 4000000 in
set_option maxRecDepth 100000 in
theorem c_isRunning (l : Launch) (G : zC) (a : zGA) (h : Nat → Int32) (b : Nat → Nat → Int32) : zMet l G yX2_isRunning wsX2_isRunning rmX2_isRunning [.ref a.1] (gmW G a h b) (some (.int (zb (zRu h)))) (gmW G a h b) := by
  refine zMet_of (cc := cX2_isRunning) (maxL := 1) (ret := (some .boolean)) (by decide) rfl (Nat.le_of_ble_eq_true rfl) ?_
  intro p e s m below meth c A ls hx hb hr hml hown hts hK hA hE hlocks hin hM hl
  have hown : s.vm.findClass RX2 = some m.cls := hown
  have hM : zM G A s s.heap [] ([(a.1, .inr (2, [.ref a.2.1, .ref a.2.2.1, .int (h 0), .int (h 1), .int (h 2), .int (h 3), .int (h 4), .int (h 5)])), (a.2.1, .inl (G.2 1, 3, .inl (fun i => h (6 + i)))), (a.2.2.1, .inl (G.2 3, 4, .inr (.inr (.inr (.inr (fun p => some (a.2.2.2 p).1))))))] ++ (bdsW G a.2.2.2 b)) := hM
  have hl : lv_has ls 1 [(0, .ref a.1)] := hl
  refine lv_aload_n hx hb dX2_isRunning_0 rfl (lv_at hl 0 rfl) ?_
  refine z_get (ci := 2) (v := .int (h 0)) (C := RX2) (T := TX2) (N := 8) hx hb hts (by decide +kernel) hown hK hM 0 rfl rfl 2 (by decide) (hts (.fieldLink RX2 39 "ShiftIsles$Game" "players" "I") (by decide +kernel)) (fun _ h9 => h9) rfl dX2_isRunning_1 ?_
  refine lv_if_le (tgt := 18) hx hb dX2_isRunning_4 (by decide) (fun c_1 => ?_) (fun c_1 => ?_)
  · skip
    refine lv_iconst (v := 0) hx hb dX2_isRunning_18 (by decide) ?_
    exact z_zret hx hb hr hlocks dX2_isRunning_19 hM (Nat.le_of_ble_eq_true rfl) (Nat.le_of_ble_eq_true rfl) (by first | exact Or.inl rfl | exact Or.inr rfl | exact zb_01 _) (by simp only [zb, zRu, decide_eq_true c_1] <;> rfl)
  · skip
    refine lv_aload_n hx hb dX2_isRunning_7 rfl (lv_at hl 0 rfl) ?_
    refine z_get (ci := 2) (v := .int (h 4)) (C := RX2) (T := TX2) (N := 8) hx hb hts (by decide +kernel) hown hK hM 0 rfl rfl 6 (by decide) (hts (.fieldLink RX2 52 "ShiftIsles$Game" "over" "Z") (by decide +kernel)) (fun _ h9 => h9) rfl dX2_isRunning_8 ?_
    refine lv_if_ne (tgt := 18) hx hb dX2_isRunning_11 (by decide) (fun c_2 => ?_) (fun c_2 => ?_)
    · skip
      refine lv_iconst (v := 0) hx hb dX2_isRunning_18 (by decide) ?_
      exact z_zret hx hb hr hlocks dX2_isRunning_19 hM (Nat.le_of_ble_eq_true rfl) (Nat.le_of_ble_eq_true rfl) (by first | exact Or.inl rfl | exact Or.inr rfl | exact zb_01 _) (by simp only [zb, zRu, decide_eq_false c_1, decide_eq_false c_2] <;> rfl)
    · skip
      refine lv_iconst (v := 1) hx hb dX2_isRunning_14 (by decide) ?_
      refine lv_goto (tgt := 19) hx hb dX2_isRunning_15 (by decide) ?_
      exact z_zret hx hb hr hlocks dX2_isRunning_19 hM (Nat.le_of_ble_eq_true rfl) (Nat.le_of_ble_eq_true rfl) (by first | exact Or.inl rfl | exact Or.inr rfl | exact zb_01 _) (by simp only [zb, zRu, decide_eq_false c_1, decide_eq_true c_2] <;> rfl)

set_option maxHeartbeats 4000000 in
set_option maxRecDepth 100000 in
theorem c_settingOf (l : Launch) (G : zC) (a : zGA) (h : Nat → Int32) (b : Nat → Nat → Int32) (k : Nat) (hk : k < 3) : zMet l G yX2_settingOf wsX2_settingOf rmX2_settingOf [.ref a.1, .int (nI k)] (gmW G a h b) (some (.int (h (6 + k)))) (gmW G a h b) := by
  refine zMet_of (cc := cX2_settingOf) (maxL := 2) (ret := (some .int)) (by decide) rfl (Nat.le_of_ble_eq_true rfl) ?_
  intro p e s m below meth c A ls hx hb hr hml hown hts hK hA hE hlocks hin hM hl
  have hown : s.vm.findClass RX2 = some m.cls := hown
  have hM : zM G A s s.heap [] ([(a.1, .inr (2, [.ref a.2.1, .ref a.2.2.1, .int (h 0), .int (h 1), .int (h 2), .int (h 3), .int (h 4), .int (h 5)])), (a.2.1, .inl (G.2 1, 3, .inl (fun i => h (6 + i)))), (a.2.2.1, .inl (G.2 3, 4, .inr (.inr (.inr (.inr (fun p => some (a.2.2.2 p).1))))))] ++ (bdsW G a.2.2.2 b)) := hM
  have hl : lv_has ls 2 [(0, .ref a.1), (1, .int (nI k))] := hl
  refine lv_iload_n hx hb dX2_settingOf_0 rfl (lv_at hl 1 rfl) ?_
  refine z_callSN (As := [.int (nI k)]) (rest := []) (wc := []) (wr := [(a.1, .inr (2, [.ref a.2.1, .ref a.2.2.1, .int (h 0), .int (h 1), .int (h 2), .int (h 3), .int (h 4), .int (h 5)])), (a.2.1, .inl (G.2 1, 3, .inl (fun i => h (6 + i)))), (a.2.2.1, .inl (G.2 3, 4, .inr (.inr (.inr (.inr (fun p => some (a.2.2.2 p).1))))))] ++ (bdsW G a.2.2.2 b)) (w1 := []) (ws' := [(a.1, .inr (2, [.ref a.2.1, .ref a.2.2.1, .int (h 0), .int (h 1), .int (h 2), .int (h 3), .int (h 4), .int (h 5)])), (a.2.1, .inl (G.2 1, 3, .inl (fun i => h (6 + i)))), (a.2.2.1, .inl (G.2 3, 4, .inr (.inr (.inr (.inr (fun p => some (a.2.2.2 p).1))))))] ++ (bdsW G a.2.2.2 b)) ⟨hx, hb, hml, hown, hts⟩ (c_isSetting l G (nI k)) ⟨va_cnB (host := RX6) 1 hts gX2_settingOf_X6_isSetting_n59 rfl rfl rfl (hE.1.1 _ (List.mem_of_getElem? (i := 5) rfl)) (hts _ (by decide +kernel)) (by decide +kernel) ⟨Nat.le_of_ble_eq_true rfl, Nat.le_of_ble_eq_true rfl⟩, hts _ (by decide +kernel), trivial⟩ rfl hl.1 rfl (Nat.le_of_ble_eq_true rfl) dX2_settingOf_1 ⟨Nat.le_of_ble_eq_true rfl, Nat.le_of_ble_eq_true rfl⟩ hK hE hA hM (List.Perm.refl _) (List.Perm.refl _) (fun H locs hM hz => ?_)
  refine z_ifeq (tgt := 16) hx hb dX2_settingOf_4 (by decide) (fun c_1 => absurd (zSe_nI hk) (by rw [c_1]; decide)) (fun c_1 => ?_)
  refine lv_aload_n hx hb dX2_settingOf_7 rfl (lv_at hl 0 rfl) ?_
  refine z_get (ci := 2) (v := .ref a.2.1) (C := RX2) (T := TX2) (N := 8) hx hb hts (by decide +kernel) hown hK hM 0 rfl rfl 0 (by decide) (hts (.fieldLink RX2 9 "ShiftIsles$Game" "settings" "[I") (by decide +kernel)) (fun _ h9 => h9) rfl dX2_settingOf_8 ?_
  refine lv_iload_n hx hb dX2_settingOf_11 rfl (lv_at hl 1 rfl) ?_
  refine z_iald hx hb hK hM 1 rfl (v := h (6 + k)) (vp_in_nI (by omega) (by decide)) (by rw [nI_clamp (by omega)]) dX2_settingOf_12 ?_
  refine lv_goto (tgt := 17) hx hb dX2_settingOf_13 (by decide) ?_
  exact z_iret hx hb hr hlocks dX2_settingOf_17 hM (Nat.le_of_ble_eq_true rfl) (Nat.le_of_ble_eq_true rfl) rfl

set_option maxHeartbeats 4000000 in
set_option maxRecDepth 100000 in
theorem c_changeSetting (l : Launch) (G : zC) (a : zGA) (h : Nat → Int32) (b : Nat → Nat → Int32) (k : Nat) (v : Int32) (hk : k < 3) : zMet l G yX2_changeSetting wsX2_changeSetting rmX2_changeSetting [.ref a.1, .int (nI k), .int v] (gmW G a h b) (some (.int (h (6 + k)))) (gmW G a (upd h (6 + k) v) b) := by
  refine zMet_of (cc := cX2_changeSetting) (maxL := 4) (ret := (some .int)) (by decide) rfl (Nat.le_of_ble_eq_true rfl) ?_
  intro p e s m below meth c A ls hx hb hr hml hown hts hK hA hE hlocks hin hM hl
  have hown : s.vm.findClass RX2 = some m.cls := hown
  have hM : zM G A s s.heap [] ([(a.1, .inr (2, [.ref a.2.1, .ref a.2.2.1, .int (h 0), .int (h 1), .int (h 2), .int (h 3), .int (h 4), .int (h 5)])), (a.2.1, .inl (G.2 1, 3, .inl (fun i => h (6 + i)))), (a.2.2.1, .inl (G.2 3, 4, .inr (.inr (.inr (.inr (fun p => some (a.2.2.2 p).1))))))] ++ (bdsW G a.2.2.2 b)) := hM
  have hl : lv_has ls 4 [(0, .ref a.1), (1, .int (nI k)), (2, .int v)] := hl
  refine lv_iload_n hx hb dX2_changeSetting_0 rfl (lv_at hl 1 rfl) ?_
  refine z_callSN (As := [.int (nI k)]) (rest := []) (wc := []) (wr := [(a.1, .inr (2, [.ref a.2.1, .ref a.2.2.1, .int (h 0), .int (h 1), .int (h 2), .int (h 3), .int (h 4), .int (h 5)])), (a.2.1, .inl (G.2 1, 3, .inl (fun i => h (6 + i)))), (a.2.2.1, .inl (G.2 3, 4, .inr (.inr (.inr (.inr (fun p => some (a.2.2.2 p).1))))))] ++ (bdsW G a.2.2.2 b)) (w1 := []) (ws' := [(a.1, .inr (2, [.ref a.2.1, .ref a.2.2.1, .int (h 0), .int (h 1), .int (h 2), .int (h 3), .int (h 4), .int (h 5)])), (a.2.1, .inl (G.2 1, 3, .inl (fun i => h (6 + i)))), (a.2.2.1, .inl (G.2 3, 4, .inr (.inr (.inr (.inr (fun p => some (a.2.2.2 p).1))))))] ++ (bdsW G a.2.2.2 b)) ⟨hx, hb, hml, hown, hts⟩ (c_isSetting l G (nI k)) ⟨va_cnB (host := RX6) 1 hts gX2_changeSetting_X6_isSetting_n59 rfl rfl rfl (hE.1.1 _ (List.mem_of_getElem? (i := 5) rfl)) (hts _ (by decide +kernel)) (by decide +kernel) ⟨Nat.le_of_ble_eq_true rfl, Nat.le_of_ble_eq_true rfl⟩, hts _ (by decide +kernel), trivial⟩ rfl hl.1 rfl (Nat.le_of_ble_eq_true rfl) dX2_changeSetting_1 ⟨Nat.le_of_ble_eq_true rfl, Nat.le_of_ble_eq_true rfl⟩ hK hE hA hM (List.Perm.refl _) (List.Perm.refl _) (fun H locs hM hz => ?_)
  refine z_ifne (tgt := 9) hx hb dX2_changeSetting_4 (by decide) (fun c_1 => ?_) (fun c_1 => absurd (zSe_nI hk) (by rw [c_1]; decide))
  refine lv_aload_n hx hb dX2_changeSetting_9 rfl (lv_at hl 0 rfl) ?_
  refine z_get (ci := 2) (v := .ref a.2.1) (C := RX2) (T := TX2) (N := 8) hx hb hts (by decide +kernel) hown hK hM 0 rfl rfl 0 (by decide) (hts (.fieldLink RX2 9 "ShiftIsles$Game" "settings" "[I") (by decide +kernel)) (fun _ h9 => h9) rfl dX2_changeSetting_10 ?_
  refine lv_iload_n hx hb dX2_changeSetting_13 rfl (lv_at hl 1 rfl) ?_
  refine z_iald hx hb hK hM 1 rfl (v := h (6 + k)) (vp_in_nI (by omega) (by decide)) (by rw [nI_clamp (by omega)]) dX2_changeSetting_14 ?_
  refine lv_istore_n (lv' := [(3, .int (h (6 + k))), (0, .ref a.1), (1, .int (nI k)), (2, .int v)]) hx hb dX2_changeSetting_15 rfl hl (by decide) rfl (fun ls hl => ?_)
  refine lv_aload_n hx hb dX2_changeSetting_16 rfl (lv_at hl 1 rfl) ?_
  refine z_get (ci := 2) (v := .ref a.2.1) (C := RX2) (T := TX2) (N := 8) hx hb hts (by decide +kernel) hown hK hM 0 rfl rfl 0 (by decide) (hts (.fieldLink RX2 9 "ShiftIsles$Game" "settings" "[I") (by decide +kernel)) (fun _ h9 => h9) rfl dX2_changeSetting_17 ?_
  refine lv_iload_n hx hb dX2_changeSetting_20 rfl (lv_at hl 2 rfl) ?_
  refine lv_iload_n hx hb dX2_changeSetting_21 rfl (lv_at hl 3 rfl) ?_
  refine z_iast (ws' := [(a.1, .inr (2, [.ref a.2.1, .ref a.2.2.1, .int (h 0), .int (h 1), .int (h 2), .int (h 3), .int (h 4), .int (h 5)])), (a.2.1, .inl (G.2 1, 3, .inl (upd (fun i => h (6 + i)) k v))), (a.2.2.1, .inl (G.2 3, 4, .inr (.inr (.inr (.inr (fun p => some (a.2.2.2 p).1))))))] ++ (bdsW G a.2.2.2 b)) hx hb hK hM 1 rfl (vp_in_nI (by omega) (by decide)) dX2_changeSetting_22 (by rw [nI_clamp (by omega)]; rfl) (fun H locs hM => ?_)
  refine lv_iload_n hx hb dX2_changeSetting_23 rfl (lv_at hl 0 rfl) ?_
  exact z_iret hx hb hr hlocks dX2_changeSetting_24 (zM_sim (gm_fold (pk_un (by omega)).symm (pk_un (by omega)).symm (pk_un (by omega)).symm (pk_un (by omega)).symm (pk_un (by omega)).symm (pk_un (by omega)).symm (fun i hi => by simp only [upd]; by_cases e : i = k <;> simp [e])) hM) (Nat.le_of_ble_eq_true rfl) (Nat.le_of_ble_eq_true rfl) rfl

set_option maxHeartbeats 4000000 in
set_option maxRecDepth 100000 in
theorem c_takenByAll (l : Launch) (G : zC) (a : zGA) (h : Nat → Int32) (b : Nat → Nat → Int32) (P : Nat) (hP : h 0 = nI P) (hP4 : P ≤ 4) : zMet l G yX2_takenByAll wsX2_takenByAll rmX2_takenByAll [.ref a.1] (gmW G a h b) (some (.int (zTk b P 0 0))) (gmW G a h b) := by
  refine zMet_of (cc := cX2_takenByAll) (maxL := 3) (ret := (some .int)) (by decide) rfl (Nat.le_of_ble_eq_true rfl) ?_
  intro p e s m below meth c A ls hx hb hr hml hown hts hK hA hE hlocks hin hM hl
  have hown : s.vm.findClass RX2 = some m.cls := hown
  have hM : zM G A s s.heap [] ([(a.1, .inr (2, [.ref a.2.1, .ref a.2.2.1, .int (h 0), .int (h 1), .int (h 2), .int (h 3), .int (h 4), .int (h 5)])), (a.2.1, .inl (G.2 1, 3, .inl (fun i => h (6 + i)))), (a.2.2.1, .inl (G.2 3, 4, .inr (.inr (.inr (.inr (fun p => some (a.2.2.2 p).1))))))] ++ (bdsW G a.2.2.2 b)) := hM
  have hl : lv_has ls 3 [(0, .ref a.1)] := hl
  refine lv_iconst (v := 0) hx hb dX2_takenByAll_0 (by decide) ?_
  refine lv_istore_n (lv' := [(1, .int 0), (0, .ref a.1)]) hx hb dX2_takenByAll_1 rfl hl (by decide) rfl (fun ls hl => ?_)
  refine lv_iconst (v := nI 0) hx hb dX2_takenByAll_2 (by decide) ?_
  refine lv_istore_n (lv' := [(2, .int (nI 0)), (1, .int 0), (0, .ref a.1)]) hx hb dX2_takenByAll_3 rfl hl (by decide) rfl (fun ls hl => ?_)
  have lp4 : ∀ (k : Nat) (i : Nat) (x : Int32), (i + k = P) → (zTk b P 0 0 = zTk b k i x) → ∀ (H : Heap) (locs : List Loc), zM G A s H locs ([(a.1, .inr (2, [.ref a.2.1, .ref a.2.2.1, .int (h 0), .int (h 1), .int (h 2), .int (h 3), .int (h 4), .int (h 5)])), (a.2.1, .inl (G.2 1, 3, .inl (fun i => h (6 + i)))), (a.2.2.1, .inl (G.2 3, 4, .inr (.inr (.inr (.inr (fun p => some (a.2.2.2 p).1))))))] ++ (bdsW G a.2.2.2 b)) → ∀ ls : Array Slot, lv_has ls 3 [(0, .ref a.1), (1, .int x), (2, .int (nI i))] → W p l e rmX2_takenByAll s m ([.ref a.1] : List Value).toArray below meth c H locs 0 0 (zEnd G below ([.ref a.1] : List Value).toArray s rmX2_takenByAll A (some (.int (zTk b P 0 0))) (gmW G a h b)) (F0 m 4 ls []) := by
    intro k
    induction k with
    | zero =>
      intro i x hik hR H locs hM ls hl
      refine lv_iload_n hx hb dX2_takenByAll_4 rfl (lv_at hl 2 rfl) ?_
      refine lv_aload_n hx hb dX2_takenByAll_5 rfl (lv_at hl 0 rfl) ?_
      refine z_get (ci := 2) (v := .int (h 0)) (C := RX2) (T := TX2) (N := 8) hx hb hts (by decide +kernel) hown hK hM 0 rfl rfl 2 (by decide) (hts (.fieldLink RX2 39 "ShiftIsles$Game" "players" "I") (by decide +kernel)) (fun _ h9 => h9) rfl dX2_takenByAll_6 ?_
      rw [hP]
      refine lv_icmp_ge (tgt := 29) hx hb dX2_takenByAll_9 (by decide) (fun c_1 => ?_) (fun c_1 => absurd (nI_le (by omega) (by omega)) c_1)
      refine lv_iload_n hx hb dX2_takenByAll_29 rfl (lv_at hl 1 rfl) ?_
      exact z_iret hx hb hr hlocks dX2_takenByAll_30 hM (Nat.le_of_ble_eq_true rfl) (Nat.le_of_ble_eq_true rfl) (by rw [hR]; rfl)
    | succ k ih =>
      intro i x hik hR H locs hM ls hl
      refine lv_iload_n hx hb dX2_takenByAll_4 rfl (lv_at hl 2 rfl) ?_
      refine lv_aload_n hx hb dX2_takenByAll_5 rfl (lv_at hl 0 rfl) ?_
      refine z_get (ci := 2) (v := .int (h 0)) (C := RX2) (T := TX2) (N := 8) hx hb hts (by decide +kernel) hown hK hM 0 rfl rfl 2 (by decide) (hts (.fieldLink RX2 39 "ShiftIsles$Game" "players" "I") (by decide +kernel)) (fun _ h9 => h9) rfl dX2_takenByAll_6 ?_
      rw [hP]
      refine lv_icmp_ge (tgt := 29) hx hb dX2_takenByAll_9 (by decide) (fun c_2 => absurd c_2 (nI_ge (by omega) (by omega))) (fun c_2 => ?_)
      refine lv_iload_n hx hb dX2_takenByAll_12 rfl (lv_at hl 1 rfl) ?_
      refine lv_aload_n hx hb dX2_takenByAll_13 rfl (lv_at hl 0 rfl) ?_
      refine lv_iload_n hx hb dX2_takenByAll_14 rfl (lv_at hl 2 rfl) ?_
      refine z_callV (As := [.int (nI i)]) (rest := [.int x]) (wc := gmW G a h b) (wr := []) (w1 := gmW G a h b) (ws' := [(a.1, .inr (2, [.ref a.2.1, .ref a.2.2.1, .int (h 0), .int (h 1), .int (h 2), .int (h 3), .int (h 4), .int (h 5)])), (a.2.1, .inl (G.2 1, 3, .inl (fun i => h (6 + i)))), (a.2.2.1, .inl (G.2 3, 4, .inr (.inr (.inr (.inr (fun p => some (a.2.2.2 p).1))))))] ++ (bdsW G a.2.2.2 b)) ⟨hx, hb, hml, hown, hts⟩ (c_boardOf l G a h b i (by omega) ) (cwV 1 hts gX2_takenByAll_X2_boardOf rfl rfl rfl (by decide +kernel) ⟨Nat.le_of_ble_eq_true rfl, Nat.le_of_ble_eq_true rfl⟩) 2 rfl rfl rfl rfl hl.1 rfl (Nat.le_of_ble_eq_true rfl) dX2_takenByAll_15 ⟨Nat.le_of_ble_eq_true rfl, Nat.le_of_ble_eq_true rfl⟩ hK hE hA hM (pm_self _) (pm_self' _) (fun H locs hM hz => ?_)
      refine z_callV (As := []) (rest := [.int x]) (wc := bdW G (a.2.2.2 i) (b i)) (wr := [(a.1, .inr (2, [.ref a.2.1, .ref a.2.2.1, .int (h 0), .int (h 1), .int (h 2), .int (h 3), .int (h 4), .int (h 5)])), (a.2.1, .inl (G.2 1, 3, .inl (fun i => h (6 + i)))), (a.2.2.1, .inl (G.2 3, 4, .inr (.inr (.inr (.inr (fun p => some (a.2.2.2 p).1))))))] ++ bdsR G a.2.2.2 b i) (w1 := bdW G (a.2.2.2 i) (b i)) (ws' := [(a.1, .inr (2, [.ref a.2.1, .ref a.2.2.1, .int (h 0), .int (h 1), .int (h 2), .int (h 3), .int (h 4), .int (h 5)])), (a.2.1, .inl (G.2 1, 3, .inl (fun i => h (6 + i)))), (a.2.2.1, .inl (G.2 3, 4, .inr (.inr (.inr (.inr (fun p => some (a.2.2.2 p).1))))))] ++ (bdsW G a.2.2.2 b)) ⟨hx, hb, hml, hown, hts⟩ (c_taken l G (a.2.2.2 i) (b i)  ) (cwV 0 hts gX2_takenByAll_X0_taken rfl rfl rfl (by decide +kernel) ⟨Nat.le_of_ble_eq_true rfl, Nat.le_of_ble_eq_true rfl⟩) 0 rfl rfl rfl rfl hl.1 rfl (Nat.le_of_ble_eq_true rfl) dX2_takenByAll_18 ⟨Nat.le_of_ble_eq_true rfl, Nat.le_of_ble_eq_true rfl⟩ hK hE hA hM (pm_mid _ (bds_pm (by omega))) (pm_mid _ (bds_pm (by omega))).symm (fun H locs hM hz => ?_)
      refine lv_iadd hx hb dX2_takenByAll_21 ?_
      refine lv_istore_n (lv' := [(1, .int (x + ((b i) 23))), (0, .ref a.1), (2, .int (nI i))]) hx hb dX2_takenByAll_22 rfl hl (by decide) rfl (fun ls hl => ?_)
      refine lv_iinc (v := nI (i + 1)) (lv' := [(2, .int (nI (i + 1))), (1, .int (x + ((b i) 23))), (0, .ref a.1)]) hx hb dX2_takenByAll_23 hl (k := 2) rfl (nI_1 i) (by decide) rfl (fun ls hl => ?_)
      refine lv_goto (tgt := 4) hx hb dX2_takenByAll_26 (by decide) ?_
      exact ih (i + 1) _ (by omega) hR _ _ hM _ (lv_sub hl [2, 1, 0] rfl)
  exact lp4 P 0 _ (by omega) rfl _ _ hM _ (lv_sub hl [2, 1, 0] rfl)

set_option maxHeartbeats 4000000 in
set_option maxRecDepth 100000 in
theorem c_reaches (l : Launch) (G : zC) (a : zGA) (h : Nat → Int32) (b : Nat → Nat → Int32) (k : Nat) (n : Int32) (hk9 : k < 1000) (P t S : Nat) (hw : zGw h P t S) : zMet l G yX2_reaches wsX2_reaches rmX2_reaches [.ref a.1, .int (nI k), .int n] (gmW G a h b) (some (.int (zb (zRs h b S k n)))) (gmW G a h b) := by
  refine zMet_of (cc := cX2_reaches) (maxL := 3) (ret := (some .boolean)) (by decide) rfl (Nat.le_of_ble_eq_true rfl) ?_
  intro p e s m below meth c A ls hx hb hr hml hown hts hK hA hE hlocks hin hM hl
  have hown : s.vm.findClass RX2 = some m.cls := hown
  have hM : zM G A s s.heap [] ([(a.1, .inr (2, [.ref a.2.1, .ref a.2.2.1, .int (h 0), .int (h 1), .int (h 2), .int (h 3), .int (h 4), .int (h 5)])), (a.2.1, .inl (G.2 1, 3, .inl (fun i => h (6 + i)))), (a.2.2.1, .inl (G.2 3, 4, .inr (.inr (.inr (.inr (fun p => some (a.2.2.2 p).1))))))] ++ (bdsW G a.2.2.2 b)) := hM
  have hl : lv_has ls 3 [(0, .ref a.1), (1, .int (nI k)), (2, .int n)] := hl
  obtain ⟨hP, hP4, hT, ht4, hS, hS9, hz2, hz4⟩ := hw
  refine lv_aload_n hx hb dX2_reaches_0 rfl (lv_at hl 0 rfl) ?_
  refine lv_iload_n hx hb dX2_reaches_1 rfl (lv_at hl 1 rfl) ?_
  refine z_callV (As := [.int (nI k)]) (rest := []) (wc := gmW G a h b) (wr := []) (w1 := gmW G a h b) (ws' := [(a.1, .inr (2, [.ref a.2.1, .ref a.2.2.1, .int (h 0), .int (h 1), .int (h 2), .int (h 3), .int (h 4), .int (h 5)])), (a.2.1, .inl (G.2 1, 3, .inl (fun i => h (6 + i)))), (a.2.2.1, .inl (G.2 3, 4, .inr (.inr (.inr (.inr (fun p => some (a.2.2.2 p).1))))))] ++ (bdsW G a.2.2.2 b)) ⟨hx, hb, hml, hown, hts⟩ (c_hasPlayer l G a h b (nI k) ) (cwV 1 hts gX2_reaches_X2_hasPlayer rfl rfl rfl (by decide +kernel) ⟨Nat.le_of_ble_eq_true rfl, Nat.le_of_ble_eq_true rfl⟩) 2 rfl rfl rfl rfl hl.1 rfl (Nat.le_of_ble_eq_true rfl) dX2_reaches_2 ⟨Nat.le_of_ble_eq_true rfl, Nat.le_of_ble_eq_true rfl⟩ hK hE hA hM (pm_self _) (pm_self' _) (fun H locs hM hz => ?_)
  refine z_ifeq (tgt := 32) hx hb dX2_reaches_5 (by decide) (fun c_h => ?_) (fun c_h => ?_)
  · skip
    refine lv_iconst (v := nI 0) hx hb dX2_reaches_32 (by decide) ?_
    exact z_zret hx hb hr hlocks dX2_reaches_33 hM (Nat.le_of_ble_eq_true rfl) (Nat.le_of_ble_eq_true rfl) (by first | exact Or.inl rfl | exact Or.inr rfl | exact zb_01 _) (by simp only [zb, zRs, c_h] <;> rfl)
  · have hkP : k < P := (zHp_lt hP hP4 (by omega)).mp c_h
    refine lv_aload_n hx hb dX2_reaches_8 rfl (lv_at hl 0 rfl) ?_
    refine lv_iload_n hx hb dX2_reaches_9 rfl (lv_at hl 1 rfl) ?_
    refine z_callV (As := [.int (nI k)]) (rest := []) (wc := gmW G a h b) (wr := []) (w1 := gmW G a h b) (ws' := [(a.1, .inr (2, [.ref a.2.1, .ref a.2.2.1, .int (h 0), .int (h 1), .int (h 2), .int (h 3), .int (h 4), .int (h 5)])), (a.2.1, .inl (G.2 1, 3, .inl (fun i => h (6 + i)))), (a.2.2.1, .inl (G.2 3, 4, .inr (.inr (.inr (.inr (fun p => some (a.2.2.2 p).1))))))] ++ (bdsW G a.2.2.2 b)) ⟨hx, hb, hml, hown, hts⟩ (c_boardOf l G a h b k (by omega) ) (cwV 1 hts gX2_reaches_X2_boardOf rfl rfl rfl (by decide +kernel) ⟨Nat.le_of_ble_eq_true rfl, Nat.le_of_ble_eq_true rfl⟩) 2 rfl rfl rfl rfl hl.1 rfl (Nat.le_of_ble_eq_true rfl) dX2_reaches_10 ⟨Nat.le_of_ble_eq_true rfl, Nat.le_of_ble_eq_true rfl⟩ hK hE hA hM (pm_self _) (pm_self' _) (fun H locs hM hz => ?_)
    refine lv_aload_n hx hb dX2_reaches_13 rfl (lv_at hl 0 rfl) ?_
    refine lv_iconst (v := nI 0) hx hb dX2_reaches_14 (by decide) ?_
    refine z_callV (As := [.int (nI 0)]) (rest := [.ref ((a.2.2.2 k).1)]) (wc := gmW G a h b) (wr := []) (w1 := gmW G a h b) (ws' := [(a.1, .inr (2, [.ref a.2.1, .ref a.2.2.1, .int (h 0), .int (h 1), .int (h 2), .int (h 3), .int (h 4), .int (h 5)])), (a.2.1, .inl (G.2 1, 3, .inl (fun i => h (6 + i)))), (a.2.2.1, .inl (G.2 3, 4, .inr (.inr (.inr (.inr (fun p => some (a.2.2.2 p).1))))))] ++ (bdsW G a.2.2.2 b)) ⟨hx, hb, hml, hown, hts⟩ (c_settingOf l G a h b 0 (by omega) ) (cwV 1 hts gX2_reaches_X2_settingOf rfl rfl rfl (by decide +kernel) ⟨Nat.le_of_ble_eq_true rfl, Nat.le_of_ble_eq_true rfl⟩) 2 rfl rfl rfl rfl hl.1 rfl (Nat.le_of_ble_eq_true rfl) dX2_reaches_15 ⟨Nat.le_of_ble_eq_true rfl, Nat.le_of_ble_eq_true rfl⟩ hK hE hA hM (pm_self _) (pm_self' _) (fun H locs hM hz => ?_)
    rw [hS]
    refine z_callV (As := [.int (nI S)]) (rest := []) (wc := bdW G (a.2.2.2 k) (b k)) (wr := [(a.1, .inr (2, [.ref a.2.1, .ref a.2.2.1, .int (h 0), .int (h 1), .int (h 2), .int (h 3), .int (h 4), .int (h 5)])), (a.2.1, .inl (G.2 1, 3, .inl (fun i => h (6 + i)))), (a.2.2.1, .inl (G.2 3, 4, .inr (.inr (.inr (.inr (fun p => some (a.2.2.2 p).1))))))] ++ bdsR G a.2.2.2 b k) (w1 := bdW G (a.2.2.2 k) (b k)) (ws' := [(a.1, .inr (2, [.ref a.2.1, .ref a.2.2.1, .int (h 0), .int (h 1), .int (h 2), .int (h 3), .int (h 4), .int (h 5)])), (a.2.1, .inl (G.2 1, 3, .inl (fun i => h (6 + i)))), (a.2.2.1, .inl (G.2 3, 4, .inr (.inr (.inr (.inr (fun p => some (a.2.2.2 p).1))))))] ++ (bdsW G a.2.2.2 b)) ⟨hx, hb, hml, hown, hts⟩ (c_reach l G (a.2.2.2 k) (b k) S (by omega) ) (cwV 1 hts gX2_reaches_X0_reach rfl rfl rfl (by decide +kernel) ⟨Nat.le_of_ble_eq_true rfl, Nat.le_of_ble_eq_true rfl⟩) 0 rfl rfl rfl rfl hl.1 rfl (Nat.le_of_ble_eq_true rfl) dX2_reaches_18 ⟨Nat.le_of_ble_eq_true rfl, Nat.le_of_ble_eq_true rfl⟩ hK hE hA hM (pm_mid _ (bds_pm (by omega))) (pm_mid _ (bds_pm (by omega))).symm (fun H locs hM hz => ?_)
    refine lv_iload_n hx hb dX2_reaches_21 rfl (lv_at hl 2 rfl) ?_
    refine z_callSN (As := [.int (zRch (b k) S), .int n]) (rest := []) (wc := []) (wr := [(a.1, .inr (2, [.ref a.2.1, .ref a.2.2.1, .int (h 0), .int (h 1), .int (h 2), .int (h 3), .int (h 4), .int (h 5)])), (a.2.1, .inl (G.2 1, 3, .inl (fun i => h (6 + i)))), (a.2.2.1, .inl (G.2 3, 4, .inr (.inr (.inr (.inr (fun p => some (a.2.2.2 p).1))))))] ++ (bdsW G a.2.2.2 b)) (w1 := []) (ws' := [(a.1, .inr (2, [.ref a.2.1, .ref a.2.2.1, .int (h 0), .int (h 1), .int (h 2), .int (h 3), .int (h 4), .int (h 5)])), (a.2.1, .inl (G.2 1, 3, .inl (fun i => h (6 + i)))), (a.2.2.1, .inl (G.2 3, 4, .inr (.inr (.inr (.inr (fun p => some (a.2.2.2 p).1))))))] ++ (bdsW G a.2.2.2 b)) ⟨hx, hb, hml, hown, hts⟩ (c_isIn l G (zRch (b k) S) n) ⟨va_cnB (host := RX6) 2 hts gX2_reaches_X6_isIn_n81 rfl rfl rfl (hE.1.1 _ (List.mem_of_getElem? (i := 6) rfl)) (hts _ (by decide +kernel)) (by decide +kernel) ⟨Nat.le_of_ble_eq_true rfl, Nat.le_of_ble_eq_true rfl⟩, hts _ (by decide +kernel), trivial⟩ rfl hl.1 rfl (Nat.le_of_ble_eq_true rfl) dX2_reaches_22 ⟨Nat.le_of_ble_eq_true rfl, Nat.le_of_ble_eq_true rfl⟩ hK hE hA hM (List.Perm.refl _) (List.Perm.refl _) (fun H locs hM hz => ?_)
    refine z_ifeq (tgt := 32) hx hb dX2_reaches_25 (by decide) (fun c_1 => ?_) (fun c_1 => ?_)
    · skip
      refine lv_iconst (v := nI 0) hx hb dX2_reaches_32 (by decide) ?_
      exact z_zret hx hb hr hlocks dX2_reaches_33 hM (Nat.le_of_ble_eq_true rfl) (Nat.le_of_ble_eq_true rfl) (by first | exact Or.inl rfl | exact Or.inr rfl | exact zb_01 _) (by simp only [zb, zRs, c_h, c_1] <;> rfl)
    · skip
      refine lv_iconst (v := nI 1) hx hb dX2_reaches_28 (by decide) ?_
      refine lv_goto (tgt := 33) hx hb dX2_reaches_29 (by decide) ?_
      exact z_zret hx hb hr hlocks dX2_reaches_33 hM (Nat.le_of_ble_eq_true rfl) (Nat.le_of_ble_eq_true rfl) (by first | exact Or.inl rfl | exact Or.inr rfl | exact zb_01 _) (by simp only [zb, zRs, c_h, c_1] <;> rfl)

set_option maxHeartbeats 4000000 in
set_option maxRecDepth 100000 in
theorem c_mayShift (l : Launch) (G : zC) (a : zGA) (h : Nat → Int32) (b : Nat → Nat → Int32) (k : Nat) (n d : Int32) (hk9 : k < 1000) (P t S : Nat) (hw : zGw h P t S) : zMet l G yX2_mayShift wsX2_mayShift rmX2_mayShift [.ref a.1, .int (nI k), .int n, .int d] (gmW G a h b) (some (.int (zb (zMs h b k n d)))) (gmW G a h b) := by
  refine zMet_of (cc := cX2_mayShift) (maxL := 4) (ret := (some .boolean)) (by decide) rfl (Nat.le_of_ble_eq_true rfl) ?_
  intro p e s m below meth c A ls hx hb hr hml hown hts hK hA hE hlocks hin hM hl
  have hown : s.vm.findClass RX2 = some m.cls := hown
  have hM : zM G A s s.heap [] ([(a.1, .inr (2, [.ref a.2.1, .ref a.2.2.1, .int (h 0), .int (h 1), .int (h 2), .int (h 3), .int (h 4), .int (h 5)])), (a.2.1, .inl (G.2 1, 3, .inl (fun i => h (6 + i)))), (a.2.2.1, .inl (G.2 3, 4, .inr (.inr (.inr (.inr (fun p => some (a.2.2.2 p).1))))))] ++ (bdsW G a.2.2.2 b)) := hM
  have hl : lv_has ls 4 [(0, .ref a.1), (1, .int (nI k)), (2, .int n), (3, .int d)] := hl
  obtain ⟨hP, hP4, hT, ht4, hS, hS9, hz2, hz4⟩ := hw
  refine lv_aload_n hx hb dX2_mayShift_0 rfl (lv_at hl 0 rfl) ?_
  refine z_callV (As := []) (rest := []) (wc := gmW G a h b) (wr := []) (w1 := gmW G a h b) (ws' := [(a.1, .inr (2, [.ref a.2.1, .ref a.2.2.1, .int (h 0), .int (h 1), .int (h 2), .int (h 3), .int (h 4), .int (h 5)])), (a.2.1, .inl (G.2 1, 3, .inl (fun i => h (6 + i)))), (a.2.2.1, .inl (G.2 3, 4, .inr (.inr (.inr (.inr (fun p => some (a.2.2.2 p).1))))))] ++ (bdsW G a.2.2.2 b)) ⟨hx, hb, hml, hown, hts⟩ (c_isRunning l G a h b  ) (cwV 0 hts gX2_mayShift_X2_isRunning rfl rfl rfl (by decide +kernel) ⟨Nat.le_of_ble_eq_true rfl, Nat.le_of_ble_eq_true rfl⟩) 2 rfl rfl rfl rfl hl.1 rfl (Nat.le_of_ble_eq_true rfl) dX2_mayShift_1 ⟨Nat.le_of_ble_eq_true rfl, Nat.le_of_ble_eq_true rfl⟩ hK hE hA hM (pm_self _) (pm_self' _) (fun H locs hM hz => ?_)
  refine z_ifeq (tgt := 61) hx hb dX2_mayShift_4 (by decide) (fun c_1 => ?_) (fun c_1 => ?_)
  · skip
    refine lv_iconst (v := 0) hx hb dX2_mayShift_61 (by decide) ?_
    exact z_zret hx hb hr hlocks dX2_mayShift_62 hM (Nat.le_of_ble_eq_true rfl) (Nat.le_of_ble_eq_true rfl) (by first | exact Or.inl rfl | exact Or.inr rfl | exact zb_01 _) (by simp only [zb, zMs, c_1] <;> rfl)
  · skip
    refine lv_aload_n hx hb dX2_mayShift_7 rfl (lv_at hl 0 rfl) ?_
    refine z_get (ci := 2) (v := .int (h 2)) (C := RX2) (T := TX2) (N := 8) hx hb hts (by decide +kernel) hown hK hM 0 rfl rfl 4 (by decide) (hts (.fieldLink RX2 45 "ShiftIsles$Game" "shifted" "Z") (by decide +kernel)) (fun _ h9 => h9) rfl dX2_mayShift_8 ?_
    refine lv_if_ne (tgt := 61) hx hb dX2_mayShift_11 (by decide) (fun c_2 => ?_) (fun c_2 => ?_)
    · skip
      refine lv_iconst (v := 0) hx hb dX2_mayShift_61 (by decide) ?_
      exact z_zret hx hb hr hlocks dX2_mayShift_62 hM (Nat.le_of_ble_eq_true rfl) (Nat.le_of_ble_eq_true rfl) (by first | exact Or.inl rfl | exact Or.inr rfl | exact zb_01 _) (by simp only [zb, zMs, c_1, decide_eq_false c_2] <;> rfl)
    · skip
      refine lv_aload_n hx hb dX2_mayShift_14 rfl (lv_at hl 0 rfl) ?_
      refine lv_iload_n hx hb dX2_mayShift_15 rfl (lv_at hl 1 rfl) ?_
      refine z_callV (As := [.int (nI k)]) (rest := []) (wc := gmW G a h b) (wr := []) (w1 := gmW G a h b) (ws' := [(a.1, .inr (2, [.ref a.2.1, .ref a.2.2.1, .int (h 0), .int (h 1), .int (h 2), .int (h 3), .int (h 4), .int (h 5)])), (a.2.1, .inl (G.2 1, 3, .inl (fun i => h (6 + i)))), (a.2.2.1, .inl (G.2 3, 4, .inr (.inr (.inr (.inr (fun p => some (a.2.2.2 p).1))))))] ++ (bdsW G a.2.2.2 b)) ⟨hx, hb, hml, hown, hts⟩ (c_hasPlayer l G a h b (nI k) ) (cwV 1 hts gX2_mayShift_X2_hasPlayer rfl rfl rfl (by decide +kernel) ⟨Nat.le_of_ble_eq_true rfl, Nat.le_of_ble_eq_true rfl⟩) 2 rfl rfl rfl rfl hl.1 rfl (Nat.le_of_ble_eq_true rfl) dX2_mayShift_16 ⟨Nat.le_of_ble_eq_true rfl, Nat.le_of_ble_eq_true rfl⟩ hK hE hA hM (pm_self _) (pm_self' _) (fun H locs hM hz => ?_)
      refine z_ifeq (tgt := 61) hx hb dX2_mayShift_19 (by decide) (fun c_h => ?_) (fun c_h => ?_)
      · skip
        refine lv_iconst (v := 0) hx hb dX2_mayShift_61 (by decide) ?_
        exact z_zret hx hb hr hlocks dX2_mayShift_62 hM (Nat.le_of_ble_eq_true rfl) (Nat.le_of_ble_eq_true rfl) (by first | exact Or.inl rfl | exact Or.inr rfl | exact zb_01 _) (by simp only [zb, zMs, c_1, decide_eq_true c_2, c_h] <;> rfl)
      · have hkP : k < P := (zHp_lt hP hP4 (by omega)).mp c_h
        refine lv_iload_n hx hb dX2_mayShift_22 rfl (lv_at hl 1 rfl) ?_
        refine lv_aload_n hx hb dX2_mayShift_23 rfl (lv_at hl 0 rfl) ?_
        refine z_get (ci := 2) (v := .int (h 1)) (C := RX2) (T := TX2) (N := 8) hx hb hts (by decide +kernel) hown hK hM 0 rfl rfl 3 (by decide) (hts (.fieldLink RX2 42 "ShiftIsles$Game" "turn" "I") (by decide +kernel)) (fun _ h9 => h9) rfl dX2_mayShift_24 ?_
        refine lv_icmp_eq (tgt := 61) hx hb dX2_mayShift_27 (by decide) (fun c_3 => ?_) (fun c_3 => ?_)
        · skip
          refine lv_iconst (v := 0) hx hb dX2_mayShift_61 (by decide) ?_
          exact z_zret hx hb hr hlocks dX2_mayShift_62 hM (Nat.le_of_ble_eq_true rfl) (Nat.le_of_ble_eq_true rfl) (by first | exact Or.inl rfl | exact Or.inr rfl | exact zb_01 _) (by simp only [zb, zMs, c_1, decide_eq_true c_2, c_h, decide_eq_true c_3] <;> rfl)
        · skip
          refine lv_iload_n hx hb dX2_mayShift_30 rfl (lv_at hl 2 rfl) ?_
          refine z_callSN (As := [.int n]) (rest := []) (wc := []) (wr := [(a.1, .inr (2, [.ref a.2.1, .ref a.2.2.1, .int (h 0), .int (h 1), .int (h 2), .int (h 3), .int (h 4), .int (h 5)])), (a.2.1, .inl (G.2 1, 3, .inl (fun i => h (6 + i)))), (a.2.2.1, .inl (G.2 3, 4, .inr (.inr (.inr (.inr (fun p => some (a.2.2.2 p).1))))))] ++ (bdsW G a.2.2.2 b)) (w1 := []) (ws' := [(a.1, .inr (2, [.ref a.2.1, .ref a.2.2.1, .int (h 0), .int (h 1), .int (h 2), .int (h 3), .int (h 4), .int (h 5)])), (a.2.1, .inl (G.2 1, 3, .inl (fun i => h (6 + i)))), (a.2.2.1, .inl (G.2 3, 4, .inr (.inr (.inr (.inr (fun p => some (a.2.2.2 p).1))))))] ++ (bdsW G a.2.2.2 b)) ⟨hx, hb, hml, hown, hts⟩ (c_isLine l G n) ⟨va_cnB (host := RX6) 1 hts gX2_mayShift_X6_isLine_n89 rfl rfl rfl (hE.1.1 _ (List.mem_of_getElem? (i := 2) rfl)) (hts _ (by decide +kernel)) (by decide +kernel) ⟨Nat.le_of_ble_eq_true rfl, Nat.le_of_ble_eq_true rfl⟩, hts _ (by decide +kernel), trivial⟩ rfl hl.1 rfl (Nat.le_of_ble_eq_true rfl) dX2_mayShift_31 ⟨Nat.le_of_ble_eq_true rfl, Nat.le_of_ble_eq_true rfl⟩ hK hE hA hM (List.Perm.refl _) (List.Perm.refl _) (fun H locs hM hz => ?_)
          refine z_ifeq (tgt := 61) hx hb dX2_mayShift_34 (by decide) (fun c_4 => ?_) (fun c_4 => ?_)
          · skip
            refine lv_iconst (v := 0) hx hb dX2_mayShift_61 (by decide) ?_
            exact z_zret hx hb hr hlocks dX2_mayShift_62 hM (Nat.le_of_ble_eq_true rfl) (Nat.le_of_ble_eq_true rfl) (by first | exact Or.inl rfl | exact Or.inr rfl | exact zb_01 _) (by simp only [zb, zMs, c_1, decide_eq_true c_2, c_h, decide_eq_false c_3, c_4] <;> rfl)
          · skip
            refine lv_iload_n hx hb dX2_mayShift_37 rfl (lv_at hl 3 rfl) ?_
            refine z_callSN (As := [.int d]) (rest := []) (wc := []) (wr := [(a.1, .inr (2, [.ref a.2.1, .ref a.2.2.1, .int (h 0), .int (h 1), .int (h 2), .int (h 3), .int (h 4), .int (h 5)])), (a.2.1, .inl (G.2 1, 3, .inl (fun i => h (6 + i)))), (a.2.2.1, .inl (G.2 3, 4, .inr (.inr (.inr (.inr (fun p => some (a.2.2.2 p).1))))))] ++ (bdsW G a.2.2.2 b)) (w1 := []) (ws' := [(a.1, .inr (2, [.ref a.2.1, .ref a.2.2.1, .int (h 0), .int (h 1), .int (h 2), .int (h 3), .int (h 4), .int (h 5)])), (a.2.1, .inl (G.2 1, 3, .inl (fun i => h (6 + i)))), (a.2.2.1, .inl (G.2 3, 4, .inr (.inr (.inr (.inr (fun p => some (a.2.2.2 p).1))))))] ++ (bdsW G a.2.2.2 b)) ⟨hx, hb, hml, hown, hts⟩ (c_isDirection l G d) ⟨va_cnB (host := RX6) 1 hts gX2_mayShift_X6_isDirection_n92 rfl rfl rfl (hE.1.1 _ (List.mem_of_getElem? (i := 3) rfl)) (hts _ (by decide +kernel)) (by decide +kernel) ⟨Nat.le_of_ble_eq_true rfl, Nat.le_of_ble_eq_true rfl⟩, hts _ (by decide +kernel), trivial⟩ rfl hl.1 rfl (Nat.le_of_ble_eq_true rfl) dX2_mayShift_38 ⟨Nat.le_of_ble_eq_true rfl, Nat.le_of_ble_eq_true rfl⟩ hK hE hA hM (List.Perm.refl _) (List.Perm.refl _) (fun H locs hM hz => ?_)
            refine z_ifeq (tgt := 61) hx hb dX2_mayShift_41 (by decide) (fun c_5 => ?_) (fun c_5 => ?_)
            · skip
              refine lv_iconst (v := 0) hx hb dX2_mayShift_61 (by decide) ?_
              exact z_zret hx hb hr hlocks dX2_mayShift_62 hM (Nat.le_of_ble_eq_true rfl) (Nat.le_of_ble_eq_true rfl) (by first | exact Or.inl rfl | exact Or.inr rfl | exact zb_01 _) (by simp only [zb, zMs, c_1, decide_eq_true c_2, c_h, decide_eq_false c_3, c_4, c_5] <;> rfl)
            · skip
              refine lv_aload_n hx hb dX2_mayShift_44 rfl (lv_at hl 0 rfl) ?_
              refine lv_iload_n hx hb dX2_mayShift_45 rfl (lv_at hl 1 rfl) ?_
              refine z_callV (As := [.int (nI k)]) (rest := []) (wc := gmW G a h b) (wr := []) (w1 := gmW G a h b) (ws' := [(a.1, .inr (2, [.ref a.2.1, .ref a.2.2.1, .int (h 0), .int (h 1), .int (h 2), .int (h 3), .int (h 4), .int (h 5)])), (a.2.1, .inl (G.2 1, 3, .inl (fun i => h (6 + i)))), (a.2.2.1, .inl (G.2 3, 4, .inr (.inr (.inr (.inr (fun p => some (a.2.2.2 p).1))))))] ++ (bdsW G a.2.2.2 b)) ⟨hx, hb, hml, hown, hts⟩ (c_boardOf l G a h b k (by omega) ) (cwV 1 hts gX2_mayShift_X2_boardOf rfl rfl rfl (by decide +kernel) ⟨Nat.le_of_ble_eq_true rfl, Nat.le_of_ble_eq_true rfl⟩) 2 rfl rfl rfl rfl hl.1 rfl (Nat.le_of_ble_eq_true rfl) dX2_mayShift_46 ⟨Nat.le_of_ble_eq_true rfl, Nat.le_of_ble_eq_true rfl⟩ hK hE hA hM (pm_self _) (pm_self' _) (fun H locs hM hz => ?_)
              refine lv_iload_n hx hb dX2_mayShift_49 rfl (lv_at hl 2 rfl) ?_
              refine lv_iload_n hx hb dX2_mayShift_50 rfl (lv_at hl 3 rfl) ?_
              refine z_callV (As := [.int n, .int d]) (rest := []) (wc := bdW G (a.2.2.2 k) (b k)) (wr := [(a.1, .inr (2, [.ref a.2.1, .ref a.2.2.1, .int (h 0), .int (h 1), .int (h 2), .int (h 3), .int (h 4), .int (h 5)])), (a.2.1, .inl (G.2 1, 3, .inl (fun i => h (6 + i)))), (a.2.2.1, .inl (G.2 3, 4, .inr (.inr (.inr (.inr (fun p => some (a.2.2.2 p).1))))))] ++ bdsR G a.2.2.2 b k) (w1 := bdW G (a.2.2.2 k) (b k)) (ws' := [(a.1, .inr (2, [.ref a.2.1, .ref a.2.2.1, .int (h 0), .int (h 1), .int (h 2), .int (h 3), .int (h 4), .int (h 5)])), (a.2.1, .inl (G.2 1, 3, .inl (fun i => h (6 + i)))), (a.2.2.1, .inl (G.2 3, 4, .inr (.inr (.inr (.inr (fun p => some (a.2.2.2 p).1))))))] ++ (bdsW G a.2.2.2 b)) ⟨hx, hb, hml, hown, hts⟩ (c_allows l G (a.2.2.2 k) (b k) n d ) (cwV 2 hts gX2_mayShift_X0_allows rfl rfl rfl (by decide +kernel) ⟨Nat.le_of_ble_eq_true rfl, Nat.le_of_ble_eq_true rfl⟩) 0 rfl rfl rfl rfl hl.1 rfl (Nat.le_of_ble_eq_true rfl) dX2_mayShift_51 ⟨Nat.le_of_ble_eq_true rfl, Nat.le_of_ble_eq_true rfl⟩ hK hE hA hM (pm_mid _ (bds_pm (by omega))) (pm_mid _ (bds_pm (by omega))).symm (fun H locs hM hz => ?_)
              refine z_ifeq (tgt := 61) hx hb dX2_mayShift_54 (by decide) (fun c_6 => ?_) (fun c_6 => ?_)
              · skip
                refine lv_iconst (v := 0) hx hb dX2_mayShift_61 (by decide) ?_
                exact z_zret hx hb hr hlocks dX2_mayShift_62 hM (Nat.le_of_ble_eq_true rfl) (Nat.le_of_ble_eq_true rfl) (by first | exact Or.inl rfl | exact Or.inr rfl | exact zb_01 _) (by simp only [zb, zMs, c_1, decide_eq_true c_2, c_h, decide_eq_false c_3, c_4, c_5, c_6] <;> rfl)
              · skip
                refine lv_iconst (v := 1) hx hb dX2_mayShift_57 (by decide) ?_
                refine lv_goto (tgt := 62) hx hb dX2_mayShift_58 (by decide) ?_
                exact z_zret hx hb hr hlocks dX2_mayShift_62 hM (Nat.le_of_ble_eq_true rfl) (Nat.le_of_ble_eq_true rfl) (by first | exact Or.inl rfl | exact Or.inr rfl | exact zb_01 _) (by simp only [zb, zMs, c_1, decide_eq_true c_2, c_h, decide_eq_false c_3, c_4, c_5, c_6] <;> rfl)

set_option maxHeartbeats 4000000 in
set_option maxRecDepth 100000 in
theorem c_shiftLine (l : Launch) (G : zC) (a : zGA) (h : Nat → Int32) (b : Nat → Nat → Int32) (k n : Nat) (d : Int32) (hk : k < 4) (hn : n < 6) : zMet l G yX2_shiftLine wsX2_shiftLine rmX2_shiftLine [.ref a.1, .int (nI k), .int (nI n), .int d] (gmW G a h b) none (gmW G a (zShH h) (zShB b k n d)) := by
  refine zMet_of (cc := cX2_shiftLine) (maxL := 4) (ret := none) (by decide) rfl (Nat.le_of_ble_eq_true rfl) ?_
  intro p e s m below meth c A ls hx hb hr hml hown hts hK hA hE hlocks hin hM hl
  have hown : s.vm.findClass RX2 = some m.cls := hown
  have hM : zM G A s s.heap [] ([(a.1, .inr (2, [.ref a.2.1, .ref a.2.2.1, .int (h 0), .int (h 1), .int (h 2), .int (h 3), .int (h 4), .int (h 5)])), (a.2.1, .inl (G.2 1, 3, .inl (fun i => h (6 + i)))), (a.2.2.1, .inl (G.2 3, 4, .inr (.inr (.inr (.inr (fun p => some (a.2.2.2 p).1))))))] ++ (bdsW G a.2.2.2 b)) := hM
  have hl : lv_has ls 4 [(0, .ref a.1), (1, .int (nI k)), (2, .int (nI n)), (3, .int d)] := hl
  refine lv_aload_n hx hb dX2_shiftLine_0 rfl (lv_at hl 0 rfl) ?_
  refine lv_iload_n hx hb dX2_shiftLine_1 rfl (lv_at hl 1 rfl) ?_
  refine z_callV (As := [.int (nI k)]) (rest := []) (wc := gmW G a h b) (wr := []) (w1 := gmW G a h b) (ws' := [(a.1, .inr (2, [.ref a.2.1, .ref a.2.2.1, .int (h 0), .int (h 1), .int (h 2), .int (h 3), .int (h 4), .int (h 5)])), (a.2.1, .inl (G.2 1, 3, .inl (fun i => h (6 + i)))), (a.2.2.1, .inl (G.2 3, 4, .inr (.inr (.inr (.inr (fun p => some (a.2.2.2 p).1))))))] ++ (bdsW G a.2.2.2 b)) ⟨hx, hb, hml, hown, hts⟩ (c_boardOf l G a h b k (by omega) ) (cwV 1 hts gX2_shiftLine_X2_boardOf rfl rfl rfl (by decide +kernel) ⟨Nat.le_of_ble_eq_true rfl, Nat.le_of_ble_eq_true rfl⟩) 2 rfl rfl rfl rfl hl.1 rfl (Nat.le_of_ble_eq_true rfl) dX2_shiftLine_2 ⟨Nat.le_of_ble_eq_true rfl, Nat.le_of_ble_eq_true rfl⟩ hK hE hA hM (pm_self _) (pm_self' _) (fun H locs hM hz => ?_)
  refine lv_iload_n hx hb dX2_shiftLine_5 rfl (lv_at hl 2 rfl) ?_
  refine lv_iload_n hx hb dX2_shiftLine_6 rfl (lv_at hl 3 rfl) ?_
  refine z_callV (As := [.int (nI n), .int d]) (rest := []) (wc := bdW G (a.2.2.2 k) (b k)) (wr := [(a.1, .inr (2, [.ref a.2.1, .ref a.2.2.1, .int (h 0), .int (h 1), .int (h 2), .int (h 3), .int (h 4), .int (h 5)])), (a.2.1, .inl (G.2 1, 3, .inl (fun i => h (6 + i)))), (a.2.2.1, .inl (G.2 3, 4, .inr (.inr (.inr (.inr (fun p => some (a.2.2.2 p).1))))))] ++ bdsR G a.2.2.2 b k) (w1 := bdW G (a.2.2.2 k) (zMv (b k) n d)) (ws' := [(a.1, .inr (2, [.ref a.2.1, .ref a.2.2.1, .int (h 0), .int (h 1), .int (h 2), .int (h 3), .int (h 4), .int (h 5)])), (a.2.1, .inl (G.2 1, 3, .inl (fun i => h (6 + i)))), (a.2.2.1, .inl (G.2 3, 4, .inr (.inr (.inr (.inr (fun p => some (a.2.2.2 p).1))))))] ++ (bdsW G a.2.2.2 (va_up b k (zMv (b k) n d)))) ⟨hx, hb, hml, hown, hts⟩ (c_moveLine l G (a.2.2.2 k) (b k) n d hn ) (cwV 2 hts gX2_shiftLine_X0_moveLine rfl rfl rfl (by decide +kernel) ⟨Nat.le_of_ble_eq_true rfl, Nat.le_of_ble_eq_true rfl⟩) 0 rfl rfl rfl rfl hl.1 rfl (Nat.le_of_ble_eq_true rfl) dX2_shiftLine_7 ⟨Nat.le_of_ble_eq_true rfl, Nat.le_of_ble_eq_true rfl⟩ hK hE hA hM (pm_mid _ (bds_pm hk)) (pm_mu _ (bds_pu hk)) (fun H locs hM hz => ?_)
  refine lv_aload_n hx hb dX2_shiftLine_10 rfl (lv_at hl 0 rfl) ?_
  refine lv_iconst (v := 1) hx hb dX2_shiftLine_11 (by decide) ?_
  refine z_put (ci := 2) (ty := .boolean) (v := .int 1) (C := RX2) (T := TX2) (N := 8) (ws' := [(a.1, .inr (2, [.ref a.2.1, .ref a.2.2.1, .int (h 0), .int (h 1), .int 1, .int (h 3), .int (h 4), .int (h 5)])), (a.2.1, .inl (G.2 1, 3, .inl (fun i => h (6 + i)))), (a.2.2.1, .inl (G.2 3, 4, .inr (.inr (.inr (.inr (fun p => some (a.2.2.2 p).1))))))] ++ (bdsW G a.2.2.2 (va_up b k (zMv (b k) n d)))) hx hb hts (by decide +kernel) tyX2 tyX2_ok nmX2 hown hK hM 0 rfl rfl 4 (by decide) (hts (.fieldLink RX2 45 "ShiftIsles$Game" "shifted" "Z") (by decide +kernel)) (fun _ h9 => h9) rfl (by decide +kernel) rfl rfl (Nat.le_of_ble_eq_true rfl) dX2_shiftLine_12 rfl (fun H locs hM => ?_)
  exact z_vret hx hb hr hlocks dX2_shiftLine_15 (zM_sim (gm_fold (H := zShH h) rfl rfl rfl rfl rfl rfl (fun i hi => (pk_un (by omega)).symm)) hM) (Nat.le_of_ble_eq_true rfl) (Nat.le_of_ble_eq_true rfl)

set_option maxHeartbeats 4000000 in
set_option maxRecDepth 100000 in
theorem c_tryShift (l : Launch) (G : zC) (a : zGA) (h : Nat → Int32) (b : Nat → Nat → Int32) (k n : Nat) (d : Int32) (hk9 : k < 1000) (hn9 : n < 1000) (P t S : Nat) (hw : zGw h P t S) : zMet l G yX2_tryShift wsX2_tryShift rmX2_tryShift [.ref a.1, .int (nI k), .int (nI n), .int d] (gmW G a h b) (some (.int (zb (zMs h b k (nI n) d)))) (gmW G a (zTsH h b k n d) (zTsB h b k n d)) := by
  refine zMet_of (cc := cX2_tryShift) (maxL := 4) (ret := (some .boolean)) (by decide) rfl (Nat.le_of_ble_eq_true rfl) ?_
  intro p e s m below meth c A ls hx hb hr hml hown hts hK hA hE hlocks hin hM hl
  have hown : s.vm.findClass RX2 = some m.cls := hown
  have hM : zM G A s s.heap [] ([(a.1, .inr (2, [.ref a.2.1, .ref a.2.2.1, .int (h 0), .int (h 1), .int (h 2), .int (h 3), .int (h 4), .int (h 5)])), (a.2.1, .inl (G.2 1, 3, .inl (fun i => h (6 + i)))), (a.2.2.1, .inl (G.2 3, 4, .inr (.inr (.inr (.inr (fun p => some (a.2.2.2 p).1))))))] ++ (bdsW G a.2.2.2 b)) := hM
  have hl : lv_has ls 4 [(0, .ref a.1), (1, .int (nI k)), (2, .int (nI n)), (3, .int d)] := hl
  refine lv_aload_n hx hb dX2_tryShift_0 rfl (lv_at hl 0 rfl) ?_
  refine lv_iload_n hx hb dX2_tryShift_1 rfl (lv_at hl 1 rfl) ?_
  refine lv_iload_n hx hb dX2_tryShift_2 rfl (lv_at hl 2 rfl) ?_
  refine lv_iload_n hx hb dX2_tryShift_3 rfl (lv_at hl 3 rfl) ?_
  refine z_callV (As := [.int (nI k), .int (nI n), .int d]) (rest := []) (wc := gmW G a h b) (wr := []) (w1 := gmW G a h b) (ws' := [(a.1, .inr (2, [.ref a.2.1, .ref a.2.2.1, .int (h 0), .int (h 1), .int (h 2), .int (h 3), .int (h 4), .int (h 5)])), (a.2.1, .inl (G.2 1, 3, .inl (fun i => h (6 + i)))), (a.2.2.1, .inl (G.2 3, 4, .inr (.inr (.inr (.inr (fun p => some (a.2.2.2 p).1))))))] ++ (bdsW G a.2.2.2 b)) ⟨hx, hb, hml, hown, hts⟩ (c_mayShift l G a h b k (nI n) d (by omega) P t S hw) (cwV 3 hts gX2_tryShift_X2_mayShift rfl rfl rfl (by decide +kernel) ⟨Nat.le_of_ble_eq_true rfl, Nat.le_of_ble_eq_true rfl⟩) 2 rfl rfl rfl rfl hl.1 rfl (Nat.le_of_ble_eq_true rfl) dX2_tryShift_4 ⟨Nat.le_of_ble_eq_true rfl, Nat.le_of_ble_eq_true rfl⟩ hK hE hA hM (pm_self _) (pm_self' _) (fun H locs hM hz => ?_)
  refine z_ifne (tgt := 12) hx hb dX2_tryShift_7 (by decide) (fun c_m => ?_) (fun c_m => ?_)
  · have hb9 := zMs_lt hw hk9 hn9 c_m
    refine lv_aload_n hx hb dX2_tryShift_12 rfl (lv_at hl 0 rfl) ?_
    refine lv_iload_n hx hb dX2_tryShift_13 rfl (lv_at hl 1 rfl) ?_
    refine lv_iload_n hx hb dX2_tryShift_14 rfl (lv_at hl 2 rfl) ?_
    refine lv_iload_n hx hb dX2_tryShift_15 rfl (lv_at hl 3 rfl) ?_
    refine z_callV (As := [.int (nI k), .int (nI n), .int d]) (rest := []) (wc := gmW G a h b) (wr := []) (w1 := gmW G a (zShH h) (zShB b k n d)) (ws' := [(a.1, .inr (2, [.ref a.2.1, .ref a.2.2.1, .int ((zShH h) 0), .int ((zShH h) 1), .int ((zShH h) 2), .int ((zShH h) 3), .int ((zShH h) 4), .int ((zShH h) 5)])), (a.2.1, .inl (G.2 1, 3, .inl (fun i => (zShH h) (6 + i)))), (a.2.2.1, .inl (G.2 3, 4, .inr (.inr (.inr (.inr (fun p => some (a.2.2.2 p).1))))))] ++ (bdsW G a.2.2.2 (zShB b k n d))) ⟨hx, hb, hml, hown, hts⟩ (c_shiftLine l G a h b k n d hb9.1 hb9.2) (cwV 3 hts gX2_tryShift_X2_shiftLine rfl rfl rfl (by decide +kernel) ⟨Nat.le_of_ble_eq_true rfl, Nat.le_of_ble_eq_true rfl⟩) 2 rfl rfl rfl rfl hl.1 rfl (Nat.le_of_ble_eq_true rfl) dX2_tryShift_16 ⟨Nat.le_of_ble_eq_true rfl, Nat.le_of_ble_eq_true rfl⟩ hK hE hA hM (pm_self _) (pm_self' _) (fun H locs hM hz => ?_)
    refine lv_iconst (v := 1) hx hb dX2_tryShift_19 (by decide) ?_
    exact z_zret hx hb hr hlocks dX2_tryShift_20 (by unfold zTsH zTsB; rw [if_pos c_m, if_pos c_m]; exact hM) (Nat.le_of_ble_eq_true rfl) (Nat.le_of_ble_eq_true rfl) (by first | exact Or.inl rfl | exact Or.inr rfl | exact zb_01 _) (by rw [c_m]; rfl)
  · skip
    refine lv_iconst (v := 0) hx hb dX2_tryShift_10 (by decide) ?_
    exact z_zret hx hb hr hlocks dX2_tryShift_11 (by unfold zTsH zTsB; rw [if_neg (by rw [c_m]; decide), if_neg (by rw [c_m]; decide)]; exact hM) (Nat.le_of_ble_eq_true rfl) (Nat.le_of_ble_eq_true rfl) (by first | exact Or.inl rfl | exact Or.inr rfl | exact zb_01 _) (by rw [c_m]; rfl)

set_option maxHeartbeats 4000000 in
set_option maxRecDepth 100000 in
theorem c_mayEndTurn (l : Launch) (G : zC) (a : zGA) (h : Nat → Int32) (b : Nat → Nat → Int32) : zMet l G yX2_mayEndTurn wsX2_mayEndTurn rmX2_mayEndTurn [.ref a.1] (gmW G a h b) (some (.int (zb (zMe h)))) (gmW G a h b) := by
  refine zMet_of (cc := cX2_mayEndTurn) (maxL := 1) (ret := (some .boolean)) (by decide) rfl (Nat.le_of_ble_eq_true rfl) ?_
  intro p e s m below meth c A ls hx hb hr hml hown hts hK hA hE hlocks hin hM hl
  have hown : s.vm.findClass RX2 = some m.cls := hown
  have hM : zM G A s s.heap [] ([(a.1, .inr (2, [.ref a.2.1, .ref a.2.2.1, .int (h 0), .int (h 1), .int (h 2), .int (h 3), .int (h 4), .int (h 5)])), (a.2.1, .inl (G.2 1, 3, .inl (fun i => h (6 + i)))), (a.2.2.1, .inl (G.2 3, 4, .inr (.inr (.inr (.inr (fun p => some (a.2.2.2 p).1))))))] ++ (bdsW G a.2.2.2 b)) := hM
  have hl : lv_has ls 1 [(0, .ref a.1)] := hl
  refine lv_aload_n hx hb dX2_mayEndTurn_0 rfl (lv_at hl 0 rfl) ?_
  refine z_callV (As := []) (rest := []) (wc := gmW G a h b) (wr := []) (w1 := gmW G a h b) (ws' := [(a.1, .inr (2, [.ref a.2.1, .ref a.2.2.1, .int (h 0), .int (h 1), .int (h 2), .int (h 3), .int (h 4), .int (h 5)])), (a.2.1, .inl (G.2 1, 3, .inl (fun i => h (6 + i)))), (a.2.2.1, .inl (G.2 3, 4, .inr (.inr (.inr (.inr (fun p => some (a.2.2.2 p).1))))))] ++ (bdsW G a.2.2.2 b)) ⟨hx, hb, hml, hown, hts⟩ (c_isRunning l G a h b  ) (cwV 0 hts gX2_mayEndTurn_X2_isRunning rfl rfl rfl (by decide +kernel) ⟨Nat.le_of_ble_eq_true rfl, Nat.le_of_ble_eq_true rfl⟩) 2 rfl rfl rfl rfl hl.1 rfl (Nat.le_of_ble_eq_true rfl) dX2_mayEndTurn_1 ⟨Nat.le_of_ble_eq_true rfl, Nat.le_of_ble_eq_true rfl⟩ hK hE hA hM (pm_self _) (pm_self' _) (fun H locs hM hz => ?_)
  refine z_ifeq (tgt := 18) hx hb dX2_mayEndTurn_4 (by decide) (fun c_1 => ?_) (fun c_1 => ?_)
  · skip
    refine lv_iconst (v := 0) hx hb dX2_mayEndTurn_18 (by decide) ?_
    exact z_zret hx hb hr hlocks dX2_mayEndTurn_19 hM (Nat.le_of_ble_eq_true rfl) (Nat.le_of_ble_eq_true rfl) (by first | exact Or.inl rfl | exact Or.inr rfl | exact zb_01 _) (by simp only [zb, zMe, c_1] <;> rfl)
  · skip
    refine lv_aload_n hx hb dX2_mayEndTurn_7 rfl (lv_at hl 0 rfl) ?_
    refine z_get (ci := 2) (v := .int (h 2)) (C := RX2) (T := TX2) (N := 8) hx hb hts (by decide +kernel) hown hK hM 0 rfl rfl 4 (by decide) (hts (.fieldLink RX2 45 "ShiftIsles$Game" "shifted" "Z") (by decide +kernel)) (fun _ h9 => h9) rfl dX2_mayEndTurn_8 ?_
    refine lv_if_eq (tgt := 18) hx hb dX2_mayEndTurn_11 (by decide) (fun c_2 => ?_) (fun c_2 => ?_)
    · skip
      refine lv_iconst (v := 0) hx hb dX2_mayEndTurn_18 (by decide) ?_
      exact z_zret hx hb hr hlocks dX2_mayEndTurn_19 hM (Nat.le_of_ble_eq_true rfl) (Nat.le_of_ble_eq_true rfl) (by first | exact Or.inl rfl | exact Or.inr rfl | exact zb_01 _) (by simp only [zb, zMe, c_1, decide_eq_true c_2] <;> rfl)
    · skip
      refine lv_iconst (v := 1) hx hb dX2_mayEndTurn_14 (by decide) ?_
      refine lv_goto (tgt := 19) hx hb dX2_mayEndTurn_15 (by decide) ?_
      exact z_zret hx hb hr hlocks dX2_mayEndTurn_19 hM (Nat.le_of_ble_eq_true rfl) (Nat.le_of_ble_eq_true rfl) (by first | exact Or.inl rfl | exact Or.inr rfl | exact zb_01 _) (by simp only [zb, zMe, c_1, decide_eq_false c_2] <;> rfl)

set_option maxHeartbeats 4000000 in
set_option maxRecDepth 100000 in
theorem c_mayGo (l : Launch) (G : zC) (a : zGA) (h : Nat → Int32) (b : Nat → Nat → Int32) (n : Int32) (P t S : Nat) (hw : zGw h P t S) : zMet l G yX2_mayGo wsX2_mayGo rmX2_mayGo [.ref a.1, .int n] (gmW G a h b) (some (.int (zb (zMg h b S t n)))) (gmW G a h b) := by
  refine zMet_of (cc := cX2_mayGo) (maxL := 2) (ret := (some .boolean)) (by decide) rfl (Nat.le_of_ble_eq_true rfl) ?_
  intro p e s m below meth c A ls hx hb hr hml hown hts hK hA hE hlocks hin hM hl
  have hown : s.vm.findClass RX2 = some m.cls := hown
  have hM : zM G A s s.heap [] ([(a.1, .inr (2, [.ref a.2.1, .ref a.2.2.1, .int (h 0), .int (h 1), .int (h 2), .int (h 3), .int (h 4), .int (h 5)])), (a.2.1, .inl (G.2 1, 3, .inl (fun i => h (6 + i)))), (a.2.2.1, .inl (G.2 3, 4, .inr (.inr (.inr (.inr (fun p => some (a.2.2.2 p).1))))))] ++ (bdsW G a.2.2.2 b)) := hM
  have hl : lv_has ls 2 [(0, .ref a.1), (1, .int n)] := hl
  have hw0 := hw
  obtain ⟨hP, hP4, hT, ht4, hS, hS9, hz2, hz4⟩ := hw
  refine lv_aload_n hx hb dX2_mayGo_0 rfl (lv_at hl 0 rfl) ?_
  refine z_callV (As := []) (rest := []) (wc := gmW G a h b) (wr := []) (w1 := gmW G a h b) (ws' := [(a.1, .inr (2, [.ref a.2.1, .ref a.2.2.1, .int (h 0), .int (h 1), .int (h 2), .int (h 3), .int (h 4), .int (h 5)])), (a.2.1, .inl (G.2 1, 3, .inl (fun i => h (6 + i)))), (a.2.2.1, .inl (G.2 3, 4, .inr (.inr (.inr (.inr (fun p => some (a.2.2.2 p).1))))))] ++ (bdsW G a.2.2.2 b)) ⟨hx, hb, hml, hown, hts⟩ (c_mayEndTurn l G a h b  ) (cwV 0 hts gX2_mayGo_X2_mayEndTurn rfl rfl rfl (by decide +kernel) ⟨Nat.le_of_ble_eq_true rfl, Nat.le_of_ble_eq_true rfl⟩) 2 rfl rfl rfl rfl hl.1 rfl (Nat.le_of_ble_eq_true rfl) dX2_mayGo_1 ⟨Nat.le_of_ble_eq_true rfl, Nat.le_of_ble_eq_true rfl⟩ hK hE hA hM (pm_self _) (pm_self' _) (fun H locs hM hz => ?_)
  refine z_ifeq (tgt := 23) hx hb dX2_mayGo_4 (by decide) (fun c_1 => ?_) (fun c_1 => ?_)
  · skip
    refine lv_iconst (v := 0) hx hb dX2_mayGo_23 (by decide) ?_
    exact z_zret hx hb hr hlocks dX2_mayGo_24 hM (Nat.le_of_ble_eq_true rfl) (Nat.le_of_ble_eq_true rfl) (by first | exact Or.inl rfl | exact Or.inr rfl | exact zb_01 _) (by simp only [zb, zMg, c_1] <;> rfl)
  · skip
    refine lv_aload_n hx hb dX2_mayGo_7 rfl (lv_at hl 0 rfl) ?_
    refine lv_aload_n hx hb dX2_mayGo_8 rfl (lv_at hl 0 rfl) ?_
    refine z_get (ci := 2) (v := .int (h 1)) (C := RX2) (T := TX2) (N := 8) hx hb hts (by decide +kernel) hown hK hM 0 rfl rfl 3 (by decide) (hts (.fieldLink RX2 42 "ShiftIsles$Game" "turn" "I") (by decide +kernel)) (fun _ h9 => h9) rfl dX2_mayGo_9 ?_
    refine lv_iload_n hx hb dX2_mayGo_12 rfl (lv_at hl 1 rfl) ?_
    rw [hT]
    refine z_callV (As := [.int (nI t), .int n]) (rest := []) (wc := gmW G a h b) (wr := []) (w1 := gmW G a h b) (ws' := [(a.1, .inr (2, [.ref a.2.1, .ref a.2.2.1, .int (h 0), .int (h 1), .int (h 2), .int (h 3), .int (h 4), .int (h 5)])), (a.2.1, .inl (G.2 1, 3, .inl (fun i => h (6 + i)))), (a.2.2.1, .inl (G.2 3, 4, .inr (.inr (.inr (.inr (fun p => some (a.2.2.2 p).1))))))] ++ (bdsW G a.2.2.2 b)) ⟨hx, hb, hml, hown, hts⟩ (c_reaches l G a h b t n (by omega) P t S ⟨hP, hP4, hT, ht4, hS, hS9, hz2, hz4⟩) (cwV 2 hts gX2_mayGo_X2_reaches rfl rfl rfl (by decide +kernel) ⟨Nat.le_of_ble_eq_true rfl, Nat.le_of_ble_eq_true rfl⟩) 2 rfl rfl rfl rfl hl.1 rfl (Nat.le_of_ble_eq_true rfl) dX2_mayGo_13 ⟨Nat.le_of_ble_eq_true rfl, Nat.le_of_ble_eq_true rfl⟩ hK hE hA hM (pm_self _) (pm_self' _) (fun H locs hM hz => ?_)
    refine z_ifeq (tgt := 23) hx hb dX2_mayGo_16 (by decide) (fun c_2 => ?_) (fun c_2 => ?_)
    · skip
      refine lv_iconst (v := 0) hx hb dX2_mayGo_23 (by decide) ?_
      exact z_zret hx hb hr hlocks dX2_mayGo_24 hM (Nat.le_of_ble_eq_true rfl) (Nat.le_of_ble_eq_true rfl) (by first | exact Or.inl rfl | exact Or.inr rfl | exact zb_01 _) (by simp only [zb, zMg, c_1, c_2] <;> rfl)
    · skip
      refine lv_iconst (v := 1) hx hb dX2_mayGo_19 (by decide) ?_
      refine lv_goto (tgt := 24) hx hb dX2_mayGo_20 (by decide) ?_
      exact z_zret hx hb hr hlocks dX2_mayGo_24 hM (Nat.le_of_ble_eq_true rfl) (Nat.le_of_ble_eq_true rfl) (by first | exact Or.inl rfl | exact Or.inr rfl | exact zb_01 _) (by simp only [zb, zMg, c_1, c_2] <;> rfl)

set_option maxHeartbeats 4000000 in
set_option maxRecDepth 100000 in
theorem c_endTurn (l : Launch) (G : zC) (a : zGA) (h : Nat → Int32) (b : Nat → Nat → Int32) (P t S : Nat) (hw : zGw h P t S) : zMet l G yX2_endTurn wsX2_endTurn rmX2_endTurn [.ref a.1] (gmW G a h b) none (gmW G a (zEtH h b t P) (zEtB h b t P)) := by
  refine zMet_of (cc := cX2_endTurn) (maxL := 1) (ret := none) (by decide) rfl (Nat.le_of_ble_eq_true rfl) ?_
  intro p e s m below meth c A ls hx hb hr hml hown hts hK hA hE hlocks hin hM hl
  have hown : s.vm.findClass RX2 = some m.cls := hown
  have hM : zM G A s s.heap [] ([(a.1, .inr (2, [.ref a.2.1, .ref a.2.2.1, .int (h 0), .int (h 1), .int (h 2), .int (h 3), .int (h 4), .int (h 5)])), (a.2.1, .inl (G.2 1, 3, .inl (fun i => h (6 + i)))), (a.2.2.1, .inl (G.2 3, 4, .inr (.inr (.inr (.inr (fun p => some (a.2.2.2 p).1))))))] ++ (bdsW G a.2.2.2 b)) := hM
  have hl : lv_has ls 1 [(0, .ref a.1)] := hl
  obtain ⟨hP, hP4, hT, ht4, hS, hS9, hz2, hz4⟩ := hw
  refine lv_aload_n hx hb dX2_endTurn_0 rfl (lv_at hl 0 rfl) ?_
  refine lv_iconst (v := 0) hx hb dX2_endTurn_1 (by decide) ?_
  refine z_put (ci := 2) (ty := .boolean) (v := .int 0) (C := RX2) (T := TX2) (N := 8) (ws' := [(a.1, .inr (2, [.ref a.2.1, .ref a.2.2.1, .int (h 0), .int (h 1), .int 0, .int (h 3), .int (h 4), .int (h 5)])), (a.2.1, .inl (G.2 1, 3, .inl (fun i => h (6 + i)))), (a.2.2.1, .inl (G.2 3, 4, .inr (.inr (.inr (.inr (fun p => some (a.2.2.2 p).1))))))] ++ (bdsW G a.2.2.2 b)) hx hb hts (by decide +kernel) tyX2 tyX2_ok nmX2 hown hK hM 0 rfl rfl 4 (by decide) (hts (.fieldLink RX2 45 "ShiftIsles$Game" "shifted" "Z") (by decide +kernel)) (fun _ h9 => h9) rfl (by decide +kernel) rfl rfl (Nat.le_of_ble_eq_true rfl) dX2_endTurn_2 rfl (fun H locs hM => ?_)
  refine lv_aload_n hx hb dX2_endTurn_5 rfl (lv_at hl 0 rfl) ?_
  refine lv_dup hx hb dX2_endTurn_6 rfl ?_
  refine z_get (ci := 2) (v := .int (h 3)) (C := RX2) (T := TX2) (N := 8) hx hb hts (by decide +kernel) hown hK hM 0 rfl rfl 5 (by decide) (hts (.fieldLink RX2 49 "ShiftIsles$Game" "ended" "I") (by decide +kernel)) (fun _ h9 => h9) rfl dX2_endTurn_7 ?_
  refine lv_iconst (v := 1) hx hb dX2_endTurn_10 (by decide) ?_
  refine lv_iadd hx hb dX2_endTurn_11 ?_
  refine z_put (ci := 2) (ty := .int) (v := .int ((h 3) + 1)) (C := RX2) (T := TX2) (N := 8) (ws' := [(a.1, .inr (2, [.ref a.2.1, .ref a.2.2.1, .int (h 0), .int (h 1), .int 0, .int ((h 3) + 1), .int (h 4), .int (h 5)])), (a.2.1, .inl (G.2 1, 3, .inl (fun i => h (6 + i)))), (a.2.2.1, .inl (G.2 3, 4, .inr (.inr (.inr (.inr (fun p => some (a.2.2.2 p).1))))))] ++ (bdsW G a.2.2.2 b)) hx hb hts (by decide +kernel) tyX2 tyX2_ok nmX2 hown hK hM 0 rfl rfl 5 (by decide) (hts (.fieldLink RX2 49 "ShiftIsles$Game" "ended" "I") (by decide +kernel)) (fun _ h9 => h9) rfl (by decide +kernel) rfl rfl (Nat.le_of_ble_eq_true rfl) dX2_endTurn_12 rfl (fun H locs hM => ?_)
  have hM : zM G A s H locs ([(a.1, .inr (2, [.ref a.2.1, .ref a.2.2.1, .int ((upd (upd h 2 0) 3 (h 3 + 1)) 0), .int ((upd (upd h 2 0) 3 (h 3 + 1)) 1), .int ((upd (upd h 2 0) 3 (h 3 + 1)) 2), .int ((upd (upd h 2 0) 3 (h 3 + 1)) 3), .int ((upd (upd h 2 0) 3 (h 3 + 1)) 4), .int ((upd (upd h 2 0) 3 (h 3 + 1)) 5)])), (a.2.1, .inl (G.2 1, 3, .inl (fun i => (upd (upd h 2 0) 3 (h 3 + 1)) (6 + i)))), (a.2.2.1, .inl (G.2 3, 4, .inr (.inr (.inr (.inr (fun p => some (a.2.2.2 p).1))))))] ++ (bdsW G a.2.2.2 b)) := zM_sim (gm_fold (H := upd (upd h 2 0) 3 (h 3 + 1)) rfl rfl rfl rfl rfl rfl (fun i hi => by rw [pk_un (by omega), pk_un (by omega)])) hM
  refine lv_aload_n hx hb dX2_endTurn_15 rfl (lv_at hl 0 rfl) ?_
  refine lv_aload_n hx hb dX2_endTurn_16 rfl (lv_at hl 0 rfl) ?_
  refine z_get (ci := 2) (v := .int ((upd (upd h 2 0) 3 (h 3 + 1)) 1)) (C := RX2) (T := TX2) (N := 8) hx hb hts (by decide +kernel) hown hK hM 0 rfl rfl 3 (by decide) (hts (.fieldLink RX2 42 "ShiftIsles$Game" "turn" "I") (by decide +kernel)) (fun _ h9 => h9) rfl dX2_endTurn_17 ?_
  rw [show (upd (upd h 2 0) 3 (h 3 + 1)) 1 = nI t from hT]
  refine z_callV (As := [.int (nI t)]) (rest := []) (wc := gmW G a (upd (upd h 2 0) 3 (h 3 + 1)) b) (wr := []) (w1 := gmW G a (upd (upd h 2 0) 3 (h 3 + 1)) b) (ws' := [(a.1, .inr (2, [.ref a.2.1, .ref a.2.2.1, .int ((upd (upd h 2 0) 3 (h 3 + 1)) 0), .int ((upd (upd h 2 0) 3 (h 3 + 1)) 1), .int ((upd (upd h 2 0) 3 (h 3 + 1)) 2), .int ((upd (upd h 2 0) 3 (h 3 + 1)) 3), .int ((upd (upd h 2 0) 3 (h 3 + 1)) 4), .int ((upd (upd h 2 0) 3 (h 3 + 1)) 5)])), (a.2.1, .inl (G.2 1, 3, .inl (fun i => (upd (upd h 2 0) 3 (h 3 + 1)) (6 + i)))), (a.2.2.1, .inl (G.2 3, 4, .inr (.inr (.inr (.inr (fun p => some (a.2.2.2 p).1))))))] ++ (bdsW G a.2.2.2 b)) ⟨hx, hb, hml, hown, hts⟩ (c_boardOf l G a (upd (upd h 2 0) 3 (h 3 + 1)) b t (by omega) ) (cwV 1 hts gX2_endTurn_X2_boardOf rfl rfl rfl (by decide +kernel) ⟨Nat.le_of_ble_eq_true rfl, Nat.le_of_ble_eq_true rfl⟩) 2 rfl rfl rfl rfl hl.1 rfl (Nat.le_of_ble_eq_true rfl) dX2_endTurn_20 ⟨Nat.le_of_ble_eq_true rfl, Nat.le_of_ble_eq_true rfl⟩ hK hE hA hM (pm_self _) (pm_self' _) (fun H locs hM hz => ?_)
  refine z_callV (As := []) (rest := []) (wc := bdW G (a.2.2.2 t) (b t)) (wr := [(a.1, .inr (2, [.ref a.2.1, .ref a.2.2.1, .int ((upd (upd h 2 0) 3 (h 3 + 1)) 0), .int ((upd (upd h 2 0) 3 (h 3 + 1)) 1), .int ((upd (upd h 2 0) 3 (h 3 + 1)) 2), .int ((upd (upd h 2 0) 3 (h 3 + 1)) 3), .int ((upd (upd h 2 0) 3 (h 3 + 1)) 4), .int ((upd (upd h 2 0) 3 (h 3 + 1)) 5)])), (a.2.1, .inl (G.2 1, 3, .inl (fun i => (upd (upd h 2 0) 3 (h 3 + 1)) (6 + i)))), (a.2.2.1, .inl (G.2 3, 4, .inr (.inr (.inr (.inr (fun p => some (a.2.2.2 p).1))))))] ++ bdsR G a.2.2.2 b t) (w1 := bdW G (a.2.2.2 t) (b t)) (ws' := [(a.1, .inr (2, [.ref a.2.1, .ref a.2.2.1, .int ((upd (upd h 2 0) 3 (h 3 + 1)) 0), .int ((upd (upd h 2 0) 3 (h 3 + 1)) 1), .int ((upd (upd h 2 0) 3 (h 3 + 1)) 2), .int ((upd (upd h 2 0) 3 (h 3 + 1)) 3), .int ((upd (upd h 2 0) 3 (h 3 + 1)) 4), .int ((upd (upd h 2 0) 3 (h 3 + 1)) 5)])), (a.2.1, .inl (G.2 1, 3, .inl (fun i => (upd (upd h 2 0) 3 (h 3 + 1)) (6 + i)))), (a.2.2.1, .inl (G.2 3, 4, .inr (.inr (.inr (.inr (fun p => some (a.2.2.2 p).1))))))] ++ (bdsW G a.2.2.2 b)) ⟨hx, hb, hml, hown, hts⟩ (c_taken l G (a.2.2.2 t) (b t)  ) (cwV 0 hts gX2_endTurn_X0_taken rfl rfl rfl (by decide +kernel) ⟨Nat.le_of_ble_eq_true rfl, Nat.le_of_ble_eq_true rfl⟩) 0 rfl rfl rfl rfl hl.1 rfl (Nat.le_of_ble_eq_true rfl) dX2_endTurn_23 ⟨Nat.le_of_ble_eq_true rfl, Nat.le_of_ble_eq_true rfl⟩ hK hE hA hM (pm_mid _ (bds_pm ht4)) (pm_mid _ (bds_pm ht4)).symm (fun H locs hM hz => ?_)
  refine lv_aload_n hx hb dX2_endTurn_26 rfl (lv_at hl 0 rfl) ?_
  refine lv_iconst (v := nI 1) hx hb dX2_endTurn_27 (by decide) ?_
  refine z_callV (As := [.int (nI 1)]) (rest := [.int ((b t) 23)]) (wc := gmW G a (upd (upd h 2 0) 3 (h 3 + 1)) b) (wr := []) (w1 := gmW G a (upd (upd h 2 0) 3 (h 3 + 1)) b) (ws' := [(a.1, .inr (2, [.ref a.2.1, .ref a.2.2.1, .int ((upd (upd h 2 0) 3 (h 3 + 1)) 0), .int ((upd (upd h 2 0) 3 (h 3 + 1)) 1), .int ((upd (upd h 2 0) 3 (h 3 + 1)) 2), .int ((upd (upd h 2 0) 3 (h 3 + 1)) 3), .int ((upd (upd h 2 0) 3 (h 3 + 1)) 4), .int ((upd (upd h 2 0) 3 (h 3 + 1)) 5)])), (a.2.1, .inl (G.2 1, 3, .inl (fun i => (upd (upd h 2 0) 3 (h 3 + 1)) (6 + i)))), (a.2.2.1, .inl (G.2 3, 4, .inr (.inr (.inr (.inr (fun p => some (a.2.2.2 p).1))))))] ++ (bdsW G a.2.2.2 b)) ⟨hx, hb, hml, hown, hts⟩ (c_settingOf l G a (upd (upd h 2 0) 3 (h 3 + 1)) b 1 (by omega) ) (cwV 1 hts gX2_endTurn_X2_settingOf rfl rfl rfl (by decide +kernel) ⟨Nat.le_of_ble_eq_true rfl, Nat.le_of_ble_eq_true rfl⟩) 2 rfl rfl rfl rfl hl.1 rfl (Nat.le_of_ble_eq_true rfl) dX2_endTurn_28 ⟨Nat.le_of_ble_eq_true rfl, Nat.le_of_ble_eq_true rfl⟩ hK hE hA hM (pm_self _) (pm_self' _) (fun H locs hM hz => ?_)
  rw [show (upd (upd h 2 0) 3 (h 3 + 1)) 7 = h 7 from rfl]
  refine lv_icmp_lt (tgt := 50) hx hb dX2_endTurn_31 (by decide) (fun c_g => ?_) (fun c_g => ?_)
  · skip
    refine lv_aload_n hx hb dX2_endTurn_50 rfl (lv_at hl 0 rfl) ?_
    refine z_get (ci := 2) (v := .int ((upd (upd h 2 0) 3 (h 3 + 1)) 3)) (C := RX2) (T := TX2) (N := 8) hx hb hts (by decide +kernel) hown hK hM 0 rfl rfl 5 (by decide) (hts (.fieldLink RX2 49 "ShiftIsles$Game" "ended" "I") (by decide +kernel)) (fun _ h9 => h9) rfl dX2_endTurn_51 ?_
    refine lv_aload_n hx hb dX2_endTurn_54 rfl (lv_at hl 0 rfl) ?_
    refine lv_iconst (v := nI 2) hx hb dX2_endTurn_55 (by decide) ?_
    refine z_callV (As := [.int (nI 2)]) (rest := [.int ((upd (upd h 2 0) 3 (h 3 + 1)) 3)]) (wc := gmW G a (upd (upd h 2 0) 3 (h 3 + 1)) b) (wr := []) (w1 := gmW G a (upd (upd h 2 0) 3 (h 3 + 1)) b) (ws' := [(a.1, .inr (2, [.ref a.2.1, .ref a.2.2.1, .int ((upd (upd h 2 0) 3 (h 3 + 1)) 0), .int ((upd (upd h 2 0) 3 (h 3 + 1)) 1), .int ((upd (upd h 2 0) 3 (h 3 + 1)) 2), .int ((upd (upd h 2 0) 3 (h 3 + 1)) 3), .int ((upd (upd h 2 0) 3 (h 3 + 1)) 4), .int ((upd (upd h 2 0) 3 (h 3 + 1)) 5)])), (a.2.1, .inl (G.2 1, 3, .inl (fun i => (upd (upd h 2 0) 3 (h 3 + 1)) (6 + i)))), (a.2.2.1, .inl (G.2 3, 4, .inr (.inr (.inr (.inr (fun p => some (a.2.2.2 p).1))))))] ++ (bdsW G a.2.2.2 b)) ⟨hx, hb, hml, hown, hts⟩ (c_settingOf l G a (upd (upd h 2 0) 3 (h 3 + 1)) b 2 (by omega) ) (cwV 1 hts gX2_endTurn_X2_settingOf rfl rfl rfl (by decide +kernel) ⟨Nat.le_of_ble_eq_true rfl, Nat.le_of_ble_eq_true rfl⟩) 2 rfl rfl rfl rfl hl.1 rfl (Nat.le_of_ble_eq_true rfl) dX2_endTurn_56 ⟨Nat.le_of_ble_eq_true rfl, Nat.le_of_ble_eq_true rfl⟩ hK hE hA hM (pm_self _) (pm_self' _) (fun H locs hM hz => ?_)
    rw [show (upd (upd h 2 0) 3 (h 3 + 1)) 8 = h 8 from rfl, show (upd (upd h 2 0) 3 (h 3 + 1)) 3 = h 3 + 1 from rfl]
    refine lv_icmp_lt (tgt := 70) hx hb dX2_endTurn_59 (by decide) (fun c_t => ?_) (fun c_t => ?_)
    · skip
      have hM : zM G A s H locs ([(a.1, .inr (2, [.ref a.2.1, .ref a.2.2.1, .int (h 0), .int (h 1), .int 0, .int (h 3 + 1), .int (h 4), .int (h 5)])), (a.2.1, .inl (G.2 1, 3, .inl (fun i => h (6 + i)))), (a.2.2.1, .inl (G.2 3, 4, .inr (.inr (.inr (.inr (fun p => some (a.2.2.2 p).1))))))] ++ (bdsW G a.2.2.2 b)) := zM_sim (zSim_app (a := [_, _, _]) ⟨zSame_rf _, zSame_arr (fun i hi => by rw [pk_un (by omega), pk_un (by omega)]), zSame_rf _, trivial⟩ (zSim_rf _)) hM
      refine lv_aload_n hx hb dX2_endTurn_70 rfl (lv_at hl 0 rfl) ?_
      refine lv_aload_n hx hb dX2_endTurn_71 rfl (lv_at hl 0 rfl) ?_
      refine z_get (ci := 2) (v := .int (h 1)) (C := RX2) (T := TX2) (N := 8) hx hb hts (by decide +kernel) hown hK hM 0 rfl rfl 3 (by decide) (hts (.fieldLink RX2 42 "ShiftIsles$Game" "turn" "I") (by decide +kernel)) (fun _ h9 => h9) rfl dX2_endTurn_72 ?_
      refine lv_iconst (v := 1) hx hb dX2_endTurn_75 (by decide) ?_
      refine lv_iadd hx hb dX2_endTurn_76 ?_
      refine lv_aload_n hx hb dX2_endTurn_77 rfl (lv_at hl 0 rfl) ?_
      refine z_get (ci := 2) (v := .int (h 0)) (C := RX2) (T := TX2) (N := 8) hx hb hts (by decide +kernel) hown hK hM 0 rfl rfl 2 (by decide) (hts (.fieldLink RX2 39 "ShiftIsles$Game" "players" "I") (by decide +kernel)) (fun _ h9 => h9) rfl dX2_endTurn_78 ?_
      rw [hT, show nI t + 1 = nI (t + 1) from nI_1 t, hP]
      refine lv_icmp_ge (tgt := 93) hx hb dX2_endTurn_81 (by decide) (fun c_p => ?_) (fun c_p => ?_)
      · have hlt : ¬ t + 1 < P := Nat.not_lt.mpr ((nI_leI (by omega) (by omega)).mp c_p); have hnt : zNt t P = 0 := by unfold zNt; rw [if_neg hlt]
        refine lv_iconst (v := nI 0) hx hb dX2_endTurn_93 (by decide) ?_
        skip
        refine z_put (ci := 2) (ty := .int) (v := .int (nI 0)) (C := RX2) (T := TX2) (N := 8) (ws' := [(a.1, .inr (2, [.ref a.2.1, .ref a.2.2.1, .int (h 0), .int (nI 0), .int 0, .int (h 3 + 1), .int (h 4), .int (h 5)])), (a.2.1, .inl (G.2 1, 3, .inl (fun i => h (6 + i)))), (a.2.2.1, .inl (G.2 3, 4, .inr (.inr (.inr (.inr (fun p => some (a.2.2.2 p).1))))))] ++ (bdsW G a.2.2.2 b)) hx hb hts (by decide +kernel) tyX2 tyX2_ok nmX2 hown hK hM 0 rfl rfl 3 (by decide) (hts (.fieldLink RX2 42 "ShiftIsles$Game" "turn" "I") (by decide +kernel)) (fun _ h9 => h9) rfl (by decide +kernel) rfl rfl (Nat.le_of_ble_eq_true rfl) dX2_endTurn_94 rfl (fun H locs hM => ?_)
        have hM : zM G A s H locs ([(a.1, .inr (2, [.ref a.2.1, .ref a.2.2.1, .int ((upd (upd (upd h 2 0) 3 (h 3 + 1)) 1 (nI 0)) 0), .int ((upd (upd (upd h 2 0) 3 (h 3 + 1)) 1 (nI 0)) 1), .int ((upd (upd (upd h 2 0) 3 (h 3 + 1)) 1 (nI 0)) 2), .int ((upd (upd (upd h 2 0) 3 (h 3 + 1)) 1 (nI 0)) 3), .int ((upd (upd (upd h 2 0) 3 (h 3 + 1)) 1 (nI 0)) 4), .int ((upd (upd (upd h 2 0) 3 (h 3 + 1)) 1 (nI 0)) 5)])), (a.2.1, .inl (G.2 1, 3, .inl (fun i => (upd (upd (upd h 2 0) 3 (h 3 + 1)) 1 (nI 0)) (6 + i)))), (a.2.2.1, .inl (G.2 3, 4, .inr (.inr (.inr (.inr (fun p => some (a.2.2.2 p).1))))))] ++ (bdsW G a.2.2.2 b)) := zM_sim (gm_fold (H := upd (upd (upd h 2 0) 3 (h 3 + 1)) 1 (nI 0)) rfl rfl rfl rfl rfl rfl (fun i hi => by rw [pk_un (by omega), pk_un (by omega), pk_un (by omega)])) hM
        refine lv_aload_n hx hb dX2_endTurn_97 rfl (lv_at hl 0 rfl) ?_
        refine lv_aload_n hx hb dX2_endTurn_98 rfl (lv_at hl 0 rfl) ?_
        refine z_get (ci := 2) (v := .int ((upd (upd (upd h 2 0) 3 (h 3 + 1)) 1 (nI 0)) 1)) (C := RX2) (T := TX2) (N := 8) hx hb hts (by decide +kernel) hown hK hM 0 rfl rfl 3 (by decide) (hts (.fieldLink RX2 42 "ShiftIsles$Game" "turn" "I") (by decide +kernel)) (fun _ h9 => h9) rfl dX2_endTurn_99 ?_
        rw [show (upd (upd (upd h 2 0) 3 (h 3 + 1)) 1 (nI 0)) 1 = nI 0 from rfl]
        refine z_callV (As := [.int (nI 0)]) (rest := []) (wc := gmW G a (upd (upd (upd h 2 0) 3 (h 3 + 1)) 1 (nI 0)) b) (wr := []) (w1 := gmW G a (upd (upd (upd h 2 0) 3 (h 3 + 1)) 1 (nI 0)) b) (ws' := [(a.1, .inr (2, [.ref a.2.1, .ref a.2.2.1, .int ((upd (upd (upd h 2 0) 3 (h 3 + 1)) 1 (nI 0)) 0), .int ((upd (upd (upd h 2 0) 3 (h 3 + 1)) 1 (nI 0)) 1), .int ((upd (upd (upd h 2 0) 3 (h 3 + 1)) 1 (nI 0)) 2), .int ((upd (upd (upd h 2 0) 3 (h 3 + 1)) 1 (nI 0)) 3), .int ((upd (upd (upd h 2 0) 3 (h 3 + 1)) 1 (nI 0)) 4), .int ((upd (upd (upd h 2 0) 3 (h 3 + 1)) 1 (nI 0)) 5)])), (a.2.1, .inl (G.2 1, 3, .inl (fun i => (upd (upd (upd h 2 0) 3 (h 3 + 1)) 1 (nI 0)) (6 + i)))), (a.2.2.1, .inl (G.2 3, 4, .inr (.inr (.inr (.inr (fun p => some (a.2.2.2 p).1))))))] ++ (bdsW G a.2.2.2 b)) ⟨hx, hb, hml, hown, hts⟩ (c_boardOf l G a (upd (upd (upd h 2 0) 3 (h 3 + 1)) 1 (nI 0)) b 0 (by omega) ) (cwV 1 hts gX2_endTurn_X2_boardOf rfl rfl rfl (by decide +kernel) ⟨Nat.le_of_ble_eq_true rfl, Nat.le_of_ble_eq_true rfl⟩) 2 rfl rfl rfl rfl hl.1 rfl (Nat.le_of_ble_eq_true rfl) dX2_endTurn_102 ⟨Nat.le_of_ble_eq_true rfl, Nat.le_of_ble_eq_true rfl⟩ hK hE hA hM (pm_self _) (pm_self' _) (fun H locs hM hz => ?_)
        refine z_callV (As := []) (rest := []) (wc := bdW G (a.2.2.2 0) (b 0)) (wr := [(a.1, .inr (2, [.ref a.2.1, .ref a.2.2.1, .int ((upd (upd (upd h 2 0) 3 (h 3 + 1)) 1 (nI 0)) 0), .int ((upd (upd (upd h 2 0) 3 (h 3 + 1)) 1 (nI 0)) 1), .int ((upd (upd (upd h 2 0) 3 (h 3 + 1)) 1 (nI 0)) 2), .int ((upd (upd (upd h 2 0) 3 (h 3 + 1)) 1 (nI 0)) 3), .int ((upd (upd (upd h 2 0) 3 (h 3 + 1)) 1 (nI 0)) 4), .int ((upd (upd (upd h 2 0) 3 (h 3 + 1)) 1 (nI 0)) 5)])), (a.2.1, .inl (G.2 1, 3, .inl (fun i => (upd (upd (upd h 2 0) 3 (h 3 + 1)) 1 (nI 0)) (6 + i)))), (a.2.2.1, .inl (G.2 3, 4, .inr (.inr (.inr (.inr (fun p => some (a.2.2.2 p).1))))))] ++ bdsR G a.2.2.2 b 0) (w1 := bdW G (a.2.2.2 0) (upd (b 0) 25 (-1))) (ws' := [(a.1, .inr (2, [.ref a.2.1, .ref a.2.2.1, .int ((upd (upd (upd h 2 0) 3 (h 3 + 1)) 1 (nI 0)) 0), .int ((upd (upd (upd h 2 0) 3 (h 3 + 1)) 1 (nI 0)) 1), .int ((upd (upd (upd h 2 0) 3 (h 3 + 1)) 1 (nI 0)) 2), .int ((upd (upd (upd h 2 0) 3 (h 3 + 1)) 1 (nI 0)) 3), .int ((upd (upd (upd h 2 0) 3 (h 3 + 1)) 1 (nI 0)) 4), .int ((upd (upd (upd h 2 0) 3 (h 3 + 1)) 1 (nI 0)) 5)])), (a.2.1, .inl (G.2 1, 3, .inl (fun i => (upd (upd (upd h 2 0) 3 (h 3 + 1)) 1 (nI 0)) (6 + i)))), (a.2.2.1, .inl (G.2 3, 4, .inr (.inr (.inr (.inr (fun p => some (a.2.2.2 p).1))))))] ++ (bdsW G a.2.2.2 (va_up b 0 (upd (b 0) 25 (-1))))) ⟨hx, hb, hml, hown, hts⟩ (c_unlock l G (a.2.2.2 0) (b 0)  ) (cwV 0 hts gX2_endTurn_X0_unlock rfl rfl rfl (by decide +kernel) ⟨Nat.le_of_ble_eq_true rfl, Nat.le_of_ble_eq_true rfl⟩) 0 rfl rfl rfl rfl hl.1 rfl (Nat.le_of_ble_eq_true rfl) dX2_endTurn_105 ⟨Nat.le_of_ble_eq_true rfl, Nat.le_of_ble_eq_true rfl⟩ hK hE hA hM (pm_mid _ (bds_pm (by omega))) (pm_mu _ (bds_pu (by omega))) (fun H locs hM hz => ?_)
        exact z_vret hx hb hr hlocks dX2_endTurn_108 (by unfold zEtH zEtB; rw [if_pos c_g, if_pos c_g, if_pos c_t, if_pos c_t, hnt]; exact (zM_sim (gm_fold (H := upd (upd (upd h 2 0) 3 (h 3 + 1)) 1 (nI 0)) rfl rfl rfl rfl rfl rfl (fun i hi => by rw [pk_un (by omega), pk_un (by omega), pk_un (by omega)])) hM)) (Nat.le_of_ble_eq_true rfl) (Nat.le_of_ble_eq_true rfl)
      · have hlt : t + 1 < P := Nat.not_le.mp (fun q => c_p ((nI_leI (by omega) (by omega)).mpr q)); have hnt : zNt t P = t + 1 := by unfold zNt; rw [if_pos hlt]
        refine lv_aload_n hx hb dX2_endTurn_84 rfl (lv_at hl 0 rfl) ?_
        refine z_get (ci := 2) (v := .int (h 1)) (C := RX2) (T := TX2) (N := 8) hx hb hts (by decide +kernel) hown hK hM 0 rfl rfl 3 (by decide) (hts (.fieldLink RX2 42 "ShiftIsles$Game" "turn" "I") (by decide +kernel)) (fun _ h9 => h9) rfl dX2_endTurn_85 ?_
        refine lv_iconst (v := 1) hx hb dX2_endTurn_88 (by decide) ?_
        refine lv_iadd hx hb dX2_endTurn_89 ?_
        refine lv_goto (tgt := 94) hx hb dX2_endTurn_90 (by decide) ?_
        rw [hT, show nI t + 1 = nI (t + 1) from nI_1 t]
        refine z_put (ci := 2) (ty := .int) (v := .int (nI (t + 1))) (C := RX2) (T := TX2) (N := 8) (ws' := [(a.1, .inr (2, [.ref a.2.1, .ref a.2.2.1, .int (h 0), .int (nI (t + 1)), .int 0, .int (h 3 + 1), .int (h 4), .int (h 5)])), (a.2.1, .inl (G.2 1, 3, .inl (fun i => h (6 + i)))), (a.2.2.1, .inl (G.2 3, 4, .inr (.inr (.inr (.inr (fun p => some (a.2.2.2 p).1))))))] ++ (bdsW G a.2.2.2 b)) hx hb hts (by decide +kernel) tyX2 tyX2_ok nmX2 hown hK hM 0 rfl rfl 3 (by decide) (hts (.fieldLink RX2 42 "ShiftIsles$Game" "turn" "I") (by decide +kernel)) (fun _ h9 => h9) rfl (by decide +kernel) rfl rfl (Nat.le_of_ble_eq_true rfl) dX2_endTurn_94 rfl (fun H locs hM => ?_)
        have hM : zM G A s H locs ([(a.1, .inr (2, [.ref a.2.1, .ref a.2.2.1, .int ((upd (upd (upd h 2 0) 3 (h 3 + 1)) 1 (nI (t + 1))) 0), .int ((upd (upd (upd h 2 0) 3 (h 3 + 1)) 1 (nI (t + 1))) 1), .int ((upd (upd (upd h 2 0) 3 (h 3 + 1)) 1 (nI (t + 1))) 2), .int ((upd (upd (upd h 2 0) 3 (h 3 + 1)) 1 (nI (t + 1))) 3), .int ((upd (upd (upd h 2 0) 3 (h 3 + 1)) 1 (nI (t + 1))) 4), .int ((upd (upd (upd h 2 0) 3 (h 3 + 1)) 1 (nI (t + 1))) 5)])), (a.2.1, .inl (G.2 1, 3, .inl (fun i => (upd (upd (upd h 2 0) 3 (h 3 + 1)) 1 (nI (t + 1))) (6 + i)))), (a.2.2.1, .inl (G.2 3, 4, .inr (.inr (.inr (.inr (fun p => some (a.2.2.2 p).1))))))] ++ (bdsW G a.2.2.2 b)) := zM_sim (gm_fold (H := upd (upd (upd h 2 0) 3 (h 3 + 1)) 1 (nI (t + 1))) rfl rfl rfl rfl rfl rfl (fun i hi => by rw [pk_un (by omega), pk_un (by omega), pk_un (by omega)])) hM
        refine lv_aload_n hx hb dX2_endTurn_97 rfl (lv_at hl 0 rfl) ?_
        refine lv_aload_n hx hb dX2_endTurn_98 rfl (lv_at hl 0 rfl) ?_
        refine z_get (ci := 2) (v := .int ((upd (upd (upd h 2 0) 3 (h 3 + 1)) 1 (nI (t + 1))) 1)) (C := RX2) (T := TX2) (N := 8) hx hb hts (by decide +kernel) hown hK hM 0 rfl rfl 3 (by decide) (hts (.fieldLink RX2 42 "ShiftIsles$Game" "turn" "I") (by decide +kernel)) (fun _ h9 => h9) rfl dX2_endTurn_99 ?_
        rw [show (upd (upd (upd h 2 0) 3 (h 3 + 1)) 1 (nI (t + 1))) 1 = nI (t + 1) from rfl]
        refine z_callV (As := [.int (nI (t + 1))]) (rest := []) (wc := gmW G a (upd (upd (upd h 2 0) 3 (h 3 + 1)) 1 (nI (t + 1))) b) (wr := []) (w1 := gmW G a (upd (upd (upd h 2 0) 3 (h 3 + 1)) 1 (nI (t + 1))) b) (ws' := [(a.1, .inr (2, [.ref a.2.1, .ref a.2.2.1, .int ((upd (upd (upd h 2 0) 3 (h 3 + 1)) 1 (nI (t + 1))) 0), .int ((upd (upd (upd h 2 0) 3 (h 3 + 1)) 1 (nI (t + 1))) 1), .int ((upd (upd (upd h 2 0) 3 (h 3 + 1)) 1 (nI (t + 1))) 2), .int ((upd (upd (upd h 2 0) 3 (h 3 + 1)) 1 (nI (t + 1))) 3), .int ((upd (upd (upd h 2 0) 3 (h 3 + 1)) 1 (nI (t + 1))) 4), .int ((upd (upd (upd h 2 0) 3 (h 3 + 1)) 1 (nI (t + 1))) 5)])), (a.2.1, .inl (G.2 1, 3, .inl (fun i => (upd (upd (upd h 2 0) 3 (h 3 + 1)) 1 (nI (t + 1))) (6 + i)))), (a.2.2.1, .inl (G.2 3, 4, .inr (.inr (.inr (.inr (fun p => some (a.2.2.2 p).1))))))] ++ (bdsW G a.2.2.2 b)) ⟨hx, hb, hml, hown, hts⟩ (c_boardOf l G a (upd (upd (upd h 2 0) 3 (h 3 + 1)) 1 (nI (t + 1))) b (t + 1) (by omega) ) (cwV 1 hts gX2_endTurn_X2_boardOf rfl rfl rfl (by decide +kernel) ⟨Nat.le_of_ble_eq_true rfl, Nat.le_of_ble_eq_true rfl⟩) 2 rfl rfl rfl rfl hl.1 rfl (Nat.le_of_ble_eq_true rfl) dX2_endTurn_102 ⟨Nat.le_of_ble_eq_true rfl, Nat.le_of_ble_eq_true rfl⟩ hK hE hA hM (pm_self _) (pm_self' _) (fun H locs hM hz => ?_)
        refine z_callV (As := []) (rest := []) (wc := bdW G (a.2.2.2 (t + 1)) (b (t + 1))) (wr := [(a.1, .inr (2, [.ref a.2.1, .ref a.2.2.1, .int ((upd (upd (upd h 2 0) 3 (h 3 + 1)) 1 (nI (t + 1))) 0), .int ((upd (upd (upd h 2 0) 3 (h 3 + 1)) 1 (nI (t + 1))) 1), .int ((upd (upd (upd h 2 0) 3 (h 3 + 1)) 1 (nI (t + 1))) 2), .int ((upd (upd (upd h 2 0) 3 (h 3 + 1)) 1 (nI (t + 1))) 3), .int ((upd (upd (upd h 2 0) 3 (h 3 + 1)) 1 (nI (t + 1))) 4), .int ((upd (upd (upd h 2 0) 3 (h 3 + 1)) 1 (nI (t + 1))) 5)])), (a.2.1, .inl (G.2 1, 3, .inl (fun i => (upd (upd (upd h 2 0) 3 (h 3 + 1)) 1 (nI (t + 1))) (6 + i)))), (a.2.2.1, .inl (G.2 3, 4, .inr (.inr (.inr (.inr (fun p => some (a.2.2.2 p).1))))))] ++ bdsR G a.2.2.2 b (t + 1)) (w1 := bdW G (a.2.2.2 (t + 1)) (upd (b (t + 1)) 25 (-1))) (ws' := [(a.1, .inr (2, [.ref a.2.1, .ref a.2.2.1, .int ((upd (upd (upd h 2 0) 3 (h 3 + 1)) 1 (nI (t + 1))) 0), .int ((upd (upd (upd h 2 0) 3 (h 3 + 1)) 1 (nI (t + 1))) 1), .int ((upd (upd (upd h 2 0) 3 (h 3 + 1)) 1 (nI (t + 1))) 2), .int ((upd (upd (upd h 2 0) 3 (h 3 + 1)) 1 (nI (t + 1))) 3), .int ((upd (upd (upd h 2 0) 3 (h 3 + 1)) 1 (nI (t + 1))) 4), .int ((upd (upd (upd h 2 0) 3 (h 3 + 1)) 1 (nI (t + 1))) 5)])), (a.2.1, .inl (G.2 1, 3, .inl (fun i => (upd (upd (upd h 2 0) 3 (h 3 + 1)) 1 (nI (t + 1))) (6 + i)))), (a.2.2.1, .inl (G.2 3, 4, .inr (.inr (.inr (.inr (fun p => some (a.2.2.2 p).1))))))] ++ (bdsW G a.2.2.2 (va_up b (t + 1) (upd (b (t + 1)) 25 (-1))))) ⟨hx, hb, hml, hown, hts⟩ (c_unlock l G (a.2.2.2 (t + 1)) (b (t + 1))  ) (cwV 0 hts gX2_endTurn_X0_unlock rfl rfl rfl (by decide +kernel) ⟨Nat.le_of_ble_eq_true rfl, Nat.le_of_ble_eq_true rfl⟩) 0 rfl rfl rfl rfl hl.1 rfl (Nat.le_of_ble_eq_true rfl) dX2_endTurn_105 ⟨Nat.le_of_ble_eq_true rfl, Nat.le_of_ble_eq_true rfl⟩ hK hE hA hM (pm_mid _ (bds_pm (by omega))) (pm_mu _ (bds_pu (by omega))) (fun H locs hM hz => ?_)
        exact z_vret hx hb hr hlocks dX2_endTurn_108 (by unfold zEtH zEtB; rw [if_pos c_g, if_pos c_g, if_pos c_t, if_pos c_t, hnt]; exact (zM_sim (gm_fold (H := upd (upd (upd h 2 0) 3 (h 3 + 1)) 1 (nI (t + 1))) rfl rfl rfl rfl rfl rfl (fun i hi => by rw [pk_un (by omega), pk_un (by omega), pk_un (by omega)])) hM)) (Nat.le_of_ble_eq_true rfl) (Nat.le_of_ble_eq_true rfl)
    · skip
      have hM : zM G A s H locs ([(a.1, .inr (2, [.ref a.2.1, .ref a.2.2.1, .int (h 0), .int (h 1), .int 0, .int (h 3 + 1), .int (h 4), .int (h 5)])), (a.2.1, .inl (G.2 1, 3, .inl (fun i => h (6 + i)))), (a.2.2.1, .inl (G.2 3, 4, .inr (.inr (.inr (.inr (fun p => some (a.2.2.2 p).1))))))] ++ (bdsW G a.2.2.2 b)) := zM_sim (zSim_app (a := [_, _, _]) ⟨zSame_rf _, zSame_arr (fun i hi => by rw [pk_un (by omega), pk_un (by omega)]), zSame_rf _, trivial⟩ (zSim_rf _)) hM
      refine lv_aload_n hx hb dX2_endTurn_62 rfl (lv_at hl 0 rfl) ?_
      refine lv_iconst (v := 1) hx hb dX2_endTurn_63 (by decide) ?_
      refine z_put (ci := 2) (ty := .boolean) (v := .int 1) (C := RX2) (T := TX2) (N := 8) (ws' := [(a.1, .inr (2, [.ref a.2.1, .ref a.2.2.1, .int (h 0), .int (h 1), .int 0, .int (h 3 + 1), .int 1, .int (h 5)])), (a.2.1, .inl (G.2 1, 3, .inl (fun i => h (6 + i)))), (a.2.2.1, .inl (G.2 3, 4, .inr (.inr (.inr (.inr (fun p => some (a.2.2.2 p).1))))))] ++ (bdsW G a.2.2.2 b)) hx hb hts (by decide +kernel) tyX2 tyX2_ok nmX2 hown hK hM 0 rfl rfl 6 (by decide) (hts (.fieldLink RX2 52 "ShiftIsles$Game" "over" "Z") (by decide +kernel)) (fun _ h9 => h9) rfl (by decide +kernel) rfl rfl (Nat.le_of_ble_eq_true rfl) dX2_endTurn_64 rfl (fun H locs hM => ?_)
      refine lv_goto (tgt := 108) hx hb dX2_endTurn_67 (by decide) ?_
      exact z_vret hx hb hr hlocks dX2_endTurn_108 (by unfold zEtH zEtB; rw [if_pos c_g, if_pos c_g, if_neg c_t, if_neg c_t]; exact (zM_sim (gm_fold (H := upd (upd (upd h 2 0) 3 (h 3 + 1)) 4 1) rfl rfl rfl rfl rfl rfl (fun i hi => by rw [pk_un (by omega), pk_un (by omega), pk_un (by omega)])) hM)) (Nat.le_of_ble_eq_true rfl) (Nat.le_of_ble_eq_true rfl)
  · skip
    have hM : zM G A s H locs ([(a.1, .inr (2, [.ref a.2.1, .ref a.2.2.1, .int (h 0), .int (h 1), .int 0, .int (h 3 + 1), .int (h 4), .int (h 5)])), (a.2.1, .inl (G.2 1, 3, .inl (fun i => h (6 + i)))), (a.2.2.1, .inl (G.2 3, 4, .inr (.inr (.inr (.inr (fun p => some (a.2.2.2 p).1))))))] ++ (bdsW G a.2.2.2 b)) := zM_sim (zSim_app (a := [_, _, _]) ⟨zSame_rf _, zSame_arr (fun i hi => by rw [pk_un (by omega), pk_un (by omega)]), zSame_rf _, trivial⟩ (zSim_rf _)) hM
    refine lv_aload_n hx hb dX2_endTurn_34 rfl (lv_at hl 0 rfl) ?_
    refine lv_iconst (v := 1) hx hb dX2_endTurn_35 (by decide) ?_
    refine z_put (ci := 2) (ty := .boolean) (v := .int 1) (C := RX2) (T := TX2) (N := 8) (ws' := [(a.1, .inr (2, [.ref a.2.1, .ref a.2.2.1, .int (h 0), .int (h 1), .int 0, .int (h 3 + 1), .int 1, .int (h 5)])), (a.2.1, .inl (G.2 1, 3, .inl (fun i => h (6 + i)))), (a.2.2.1, .inl (G.2 3, 4, .inr (.inr (.inr (.inr (fun p => some (a.2.2.2 p).1))))))] ++ (bdsW G a.2.2.2 b)) hx hb hts (by decide +kernel) tyX2 tyX2_ok nmX2 hown hK hM 0 rfl rfl 6 (by decide) (hts (.fieldLink RX2 52 "ShiftIsles$Game" "over" "Z") (by decide +kernel)) (fun _ h9 => h9) rfl (by decide +kernel) rfl rfl (Nat.le_of_ble_eq_true rfl) dX2_endTurn_36 rfl (fun H locs hM => ?_)
    refine lv_aload_n hx hb dX2_endTurn_39 rfl (lv_at hl 0 rfl) ?_
    refine lv_aload_n hx hb dX2_endTurn_40 rfl (lv_at hl 0 rfl) ?_
    refine z_get (ci := 2) (v := .int (h 1)) (C := RX2) (T := TX2) (N := 8) hx hb hts (by decide +kernel) hown hK hM 0 rfl rfl 3 (by decide) (hts (.fieldLink RX2 42 "ShiftIsles$Game" "turn" "I") (by decide +kernel)) (fun _ h9 => h9) rfl dX2_endTurn_41 ?_
    refine z_put (ci := 2) (ty := .int) (v := .int (h 1)) (C := RX2) (T := TX2) (N := 8) (ws' := [(a.1, .inr (2, [.ref a.2.1, .ref a.2.2.1, .int (h 0), .int (h 1), .int 0, .int (h 3 + 1), .int 1, .int (h 1)])), (a.2.1, .inl (G.2 1, 3, .inl (fun i => h (6 + i)))), (a.2.2.1, .inl (G.2 3, 4, .inr (.inr (.inr (.inr (fun p => some (a.2.2.2 p).1))))))] ++ (bdsW G a.2.2.2 b)) hx hb hts (by decide +kernel) tyX2 tyX2_ok nmX2 hown hK hM 0 rfl rfl 7 (by decide) (hts (.fieldLink RX2 31 "ShiftIsles$Game" "winner" "I") (by decide +kernel)) (fun _ h9 => h9) rfl (by decide +kernel) rfl rfl (Nat.le_of_ble_eq_true rfl) dX2_endTurn_44 rfl (fun H locs hM => ?_)
    refine lv_goto (tgt := 108) hx hb dX2_endTurn_47 (by decide) ?_
    exact z_vret hx hb hr hlocks dX2_endTurn_108 (by unfold zEtH zEtB; rw [if_neg c_g, if_neg c_g]; exact (zM_sim (gm_fold (H := upd (upd (upd (upd h 2 0) 3 (h 3 + 1)) 4 1) 5 (h 1)) rfl rfl rfl rfl rfl rfl (fun i hi => by rw [pk_un (by omega), pk_un (by omega), pk_un (by omega), pk_un (by omega)])) hM)) (Nat.le_of_ble_eq_true rfl) (Nat.le_of_ble_eq_true rfl)

set_option maxHeartbeats 4000000 in
set_option maxRecDepth 100000 in
theorem c_goTo (l : Launch) (G : zC) (a : zGA) (h : Nat → Int32) (b : Nat → Nat → Int32) (n : Nat) (hn : n < 9) (P t S : Nat) (hw : zGw h P t S) : zMet l G yX2_goTo wsX2_goTo rmX2_goTo [.ref a.1, .int (nI n)] (gmW G a h b) (some (.int (zLr (b t) n))) (gmW G a (zEtH h (zGoB b t n) t P) (zEtB h (zGoB b t n) t P)) := by
  refine zMet_of (cc := cX2_goTo) (maxL := 3) (ret := (some .int)) (by decide) rfl (Nat.le_of_ble_eq_true rfl) ?_
  intro p e s m below meth c A ls hx hb hr hml hown hts hK hA hE hlocks hin hM hl
  have hown : s.vm.findClass RX2 = some m.cls := hown
  have hM : zM G A s s.heap [] ([(a.1, .inr (2, [.ref a.2.1, .ref a.2.2.1, .int (h 0), .int (h 1), .int (h 2), .int (h 3), .int (h 4), .int (h 5)])), (a.2.1, .inl (G.2 1, 3, .inl (fun i => h (6 + i)))), (a.2.2.1, .inl (G.2 3, 4, .inr (.inr (.inr (.inr (fun p => some (a.2.2.2 p).1))))))] ++ (bdsW G a.2.2.2 b)) := hM
  have hl : lv_has ls 3 [(0, .ref a.1), (1, .int (nI n))] := hl
  have hw0 := hw
  obtain ⟨hP, hP4, hT, ht4, hS, hS9, hz2, hz4⟩ := hw
  refine lv_aload_n hx hb dX2_goTo_0 rfl (lv_at hl 0 rfl) ?_
  refine lv_aload_n hx hb dX2_goTo_1 rfl (lv_at hl 0 rfl) ?_
  refine z_get (ci := 2) (v := .int (h 1)) (C := RX2) (T := TX2) (N := 8) hx hb hts (by decide +kernel) hown hK hM 0 rfl rfl 3 (by decide) (hts (.fieldLink RX2 42 "ShiftIsles$Game" "turn" "I") (by decide +kernel)) (fun _ h9 => h9) rfl dX2_goTo_2 ?_
  rw [hT]
  refine z_callV (As := [.int (nI t)]) (rest := []) (wc := gmW G a h b) (wr := []) (w1 := gmW G a h b) (ws' := [(a.1, .inr (2, [.ref a.2.1, .ref a.2.2.1, .int (h 0), .int (h 1), .int (h 2), .int (h 3), .int (h 4), .int (h 5)])), (a.2.1, .inl (G.2 1, 3, .inl (fun i => h (6 + i)))), (a.2.2.1, .inl (G.2 3, 4, .inr (.inr (.inr (.inr (fun p => some (a.2.2.2 p).1))))))] ++ (bdsW G a.2.2.2 b)) ⟨hx, hb, hml, hown, hts⟩ (c_boardOf l G a h b t (by omega) ) (cwV 1 hts gX2_goTo_X2_boardOf rfl rfl rfl (by decide +kernel) ⟨Nat.le_of_ble_eq_true rfl, Nat.le_of_ble_eq_true rfl⟩) 2 rfl rfl rfl rfl hl.1 rfl (Nat.le_of_ble_eq_true rfl) dX2_goTo_5 ⟨Nat.le_of_ble_eq_true rfl, Nat.le_of_ble_eq_true rfl⟩ hK hE hA hM (pm_self _) (pm_self' _) (fun H locs hM hz => ?_)
  refine lv_iload_n hx hb dX2_goTo_8 rfl (lv_at hl 1 rfl) ?_
  refine z_callV (As := [.int (nI n)]) (rest := []) (wc := bdW G (a.2.2.2 t) (b t)) (wr := [(a.1, .inr (2, [.ref a.2.1, .ref a.2.2.1, .int (h 0), .int (h 1), .int (h 2), .int (h 3), .int (h 4), .int (h 5)])), (a.2.1, .inl (G.2 1, 3, .inl (fun i => h (6 + i)))), (a.2.2.1, .inl (G.2 3, 4, .inr (.inr (.inr (.inr (fun p => some (a.2.2.2 p).1))))))] ++ bdsR G a.2.2.2 b t) (w1 := bdW G (a.2.2.2 t) (zLd (b t) n)) (ws' := [(a.1, .inr (2, [.ref a.2.1, .ref a.2.2.1, .int (h 0), .int (h 1), .int (h 2), .int (h 3), .int (h 4), .int (h 5)])), (a.2.1, .inl (G.2 1, 3, .inl (fun i => h (6 + i)))), (a.2.2.1, .inl (G.2 3, 4, .inr (.inr (.inr (.inr (fun p => some (a.2.2.2 p).1))))))] ++ (bdsW G a.2.2.2 (va_up b t (zLd (b t) n)))) ⟨hx, hb, hml, hown, hts⟩ (c_landOn l G (a.2.2.2 t) (b t) n hn) (cwV 1 hts gX2_goTo_X0_landOn rfl rfl rfl (by decide +kernel) ⟨Nat.le_of_ble_eq_true rfl, Nat.le_of_ble_eq_true rfl⟩) 0 rfl rfl rfl rfl hl.1 rfl (Nat.le_of_ble_eq_true rfl) dX2_goTo_9 ⟨Nat.le_of_ble_eq_true rfl, Nat.le_of_ble_eq_true rfl⟩ hK hE hA hM (pm_mid _ (bds_pm ht4)) (pm_mu _ (bds_pu ht4)) (fun H locs hM hz => ?_)
  refine lv_istore_n (lv' := [(2, .int (zLr (b t) n)), (0, .ref a.1), (1, .int (nI n))]) hx hb dX2_goTo_12 rfl hl (by decide) rfl (fun ls hl => ?_)
  refine lv_aload_n hx hb dX2_goTo_13 rfl (lv_at hl 1 rfl) ?_
  refine z_callV (As := []) (rest := []) (wc := gmW G a h (va_up b t (zLd (b t) n))) (wr := []) (w1 := gmW G a (zEtH h (va_up b t (zLd (b t) n)) t P) (zEtB h (va_up b t (zLd (b t) n)) t P)) (ws' := [(a.1, .inr (2, [.ref a.2.1, .ref a.2.2.1, .int ((zEtH h (va_up b t (zLd (b t) n)) t P) 0), .int ((zEtH h (va_up b t (zLd (b t) n)) t P) 1), .int ((zEtH h (va_up b t (zLd (b t) n)) t P) 2), .int ((zEtH h (va_up b t (zLd (b t) n)) t P) 3), .int ((zEtH h (va_up b t (zLd (b t) n)) t P) 4), .int ((zEtH h (va_up b t (zLd (b t) n)) t P) 5)])), (a.2.1, .inl (G.2 1, 3, .inl (fun i => (zEtH h (va_up b t (zLd (b t) n)) t P) (6 + i)))), (a.2.2.1, .inl (G.2 3, 4, .inr (.inr (.inr (.inr (fun p => some (a.2.2.2 p).1))))))] ++ (bdsW G a.2.2.2 (zEtB h (va_up b t (zLd (b t) n)) t P))) ⟨hx, hb, hml, hown, hts⟩ (c_endTurn l G a h (va_up b t (zLd (b t) n)) P t S hw0) (cwV 0 hts gX2_goTo_X2_endTurn rfl rfl rfl (by decide +kernel) ⟨Nat.le_of_ble_eq_true rfl, Nat.le_of_ble_eq_true rfl⟩) 2 rfl rfl rfl rfl hl.1 rfl (Nat.le_of_ble_eq_true rfl) dX2_goTo_14 ⟨Nat.le_of_ble_eq_true rfl, Nat.le_of_ble_eq_true rfl⟩ hK hE hA hM (pm_self _) (pm_self' _) (fun H locs hM hz => ?_)
  refine lv_iload_n hx hb dX2_goTo_17 rfl (lv_at hl 0 rfl) ?_
  exact z_iret hx hb hr hlocks dX2_goTo_18 hM (Nat.le_of_ble_eq_true rfl) (Nat.le_of_ble_eq_true rfl) rfl

set_option maxHeartbeats 4000000 in
set_option maxRecDepth 100000 in
theorem c_tryGo (l : Launch) (G : zC) (a : zGA) (h : Nat → Int32) (b : Nat → Nat → Int32) (n : Nat) (hn9 : n < 1000) (P t S : Nat) (hw : zGw h P t S) : zMet l G yX2_tryGo wsX2_tryGo rmX2_tryGo [.ref a.1, .int (nI n)] (gmW G a h b) (some (.int (zb (zMg h b S t (nI n))))) (gmW G a (if zMg h b S t (nI n) = true then zEtH h (zGoB b t n) t P else h) (if zMg h b S t (nI n) = true then zEtB h (zGoB b t n) t P else b)) := by
  refine zMet_of (cc := cX2_tryGo) (maxL := 2) (ret := (some .boolean)) (by decide) rfl (Nat.le_of_ble_eq_true rfl) ?_
  intro p e s m below meth c A ls hx hb hr hml hown hts hK hA hE hlocks hin hM hl
  have hown : s.vm.findClass RX2 = some m.cls := hown
  have hM : zM G A s s.heap [] ([(a.1, .inr (2, [.ref a.2.1, .ref a.2.2.1, .int (h 0), .int (h 1), .int (h 2), .int (h 3), .int (h 4), .int (h 5)])), (a.2.1, .inl (G.2 1, 3, .inl (fun i => h (6 + i)))), (a.2.2.1, .inl (G.2 3, 4, .inr (.inr (.inr (.inr (fun p => some (a.2.2.2 p).1))))))] ++ (bdsW G a.2.2.2 b)) := hM
  have hl : lv_has ls 2 [(0, .ref a.1), (1, .int (nI n))] := hl
  refine lv_aload_n hx hb dX2_tryGo_0 rfl (lv_at hl 0 rfl) ?_
  refine lv_iload_n hx hb dX2_tryGo_1 rfl (lv_at hl 1 rfl) ?_
  refine z_callV (As := [.int (nI n)]) (rest := []) (wc := gmW G a h b) (wr := []) (w1 := gmW G a h b) (ws' := [(a.1, .inr (2, [.ref a.2.1, .ref a.2.2.1, .int (h 0), .int (h 1), .int (h 2), .int (h 3), .int (h 4), .int (h 5)])), (a.2.1, .inl (G.2 1, 3, .inl (fun i => h (6 + i)))), (a.2.2.1, .inl (G.2 3, 4, .inr (.inr (.inr (.inr (fun p => some (a.2.2.2 p).1))))))] ++ (bdsW G a.2.2.2 b)) ⟨hx, hb, hml, hown, hts⟩ (c_mayGo l G a h b (nI n) P t S hw) (cwV 1 hts gX2_tryGo_X2_mayGo rfl rfl rfl (by decide +kernel) ⟨Nat.le_of_ble_eq_true rfl, Nat.le_of_ble_eq_true rfl⟩) 2 rfl rfl rfl rfl hl.1 rfl (Nat.le_of_ble_eq_true rfl) dX2_tryGo_2 ⟨Nat.le_of_ble_eq_true rfl, Nat.le_of_ble_eq_true rfl⟩ hK hE hA hM (pm_self _) (pm_self' _) (fun H locs hM hz => ?_)
  refine z_ifne (tgt := 10) hx hb dX2_tryGo_5 (by decide) (fun c_m => ?_) (fun c_m => ?_)
  · have hn := zMg_lt hn9 c_m
    refine lv_aload_n hx hb dX2_tryGo_10 rfl (lv_at hl 0 rfl) ?_
    refine lv_iload_n hx hb dX2_tryGo_11 rfl (lv_at hl 1 rfl) ?_
    refine z_callV (As := [.int (nI n)]) (rest := []) (wc := gmW G a h b) (wr := []) (w1 := gmW G a (zEtH h (zGoB b t n) t P) (zEtB h (zGoB b t n) t P)) (ws' := [(a.1, .inr (2, [.ref a.2.1, .ref a.2.2.1, .int ((zEtH h (zGoB b t n) t P) 0), .int ((zEtH h (zGoB b t n) t P) 1), .int ((zEtH h (zGoB b t n) t P) 2), .int ((zEtH h (zGoB b t n) t P) 3), .int ((zEtH h (zGoB b t n) t P) 4), .int ((zEtH h (zGoB b t n) t P) 5)])), (a.2.1, .inl (G.2 1, 3, .inl (fun i => (zEtH h (zGoB b t n) t P) (6 + i)))), (a.2.2.1, .inl (G.2 3, 4, .inr (.inr (.inr (.inr (fun p => some (a.2.2.2 p).1))))))] ++ (bdsW G a.2.2.2 (zEtB h (zGoB b t n) t P))) ⟨hx, hb, hml, hown, hts⟩ (c_goTo l G a h b n hn P t S hw) (cwV 1 hts gX2_tryGo_X2_goTo rfl rfl rfl (by decide +kernel) ⟨Nat.le_of_ble_eq_true rfl, Nat.le_of_ble_eq_true rfl⟩) 2 rfl rfl rfl rfl hl.1 rfl (Nat.le_of_ble_eq_true rfl) dX2_tryGo_12 ⟨Nat.le_of_ble_eq_true rfl, Nat.le_of_ble_eq_true rfl⟩ hK hE hA hM (pm_self _) (pm_self' _) (fun H locs hM hz => ?_)
    refine lv_pop hx hb dX2_tryGo_15 rfl ?_
    refine lv_iconst (v := 1) hx hb dX2_tryGo_16 (by decide) ?_
    exact z_zret hx hb hr hlocks dX2_tryGo_17 (by rw [if_pos c_m, if_pos c_m]; exact hM) (Nat.le_of_ble_eq_true rfl) (Nat.le_of_ble_eq_true rfl) (by first | exact Or.inl rfl | exact Or.inr rfl | exact zb_01 _) (by rw [c_m]; rfl)
  · skip
    refine lv_iconst (v := 0) hx hb dX2_tryGo_8 (by decide) ?_
    exact z_zret hx hb hr hlocks dX2_tryGo_9 (by rw [if_neg (by rw [c_m]; decide), if_neg (by rw [c_m]; decide)]; exact hM) (Nat.le_of_ble_eq_true rfl) (Nat.le_of_ble_eq_true rfl) (by first | exact Or.inl rfl | exact Or.inr rfl | exact zb_01 _) (by rw [c_m]; rfl)

set_option maxHeartbeats 4000000 in
set_option maxRecDepth 100000 in
theorem c_lockLine (l : Launch) (G : zC) (a : zGA) (h : Nat → Int32) (b : Nat → Nat → Int32) (n : Int32) (P t S : Nat) (hw : zGw h P t S) : zMet l G yX2_lockLine wsX2_lockLine rmX2_lockLine [.ref a.1, .int n] (gmW G a h b) none (gmW G a (zEtH h (zLkB b t n) t P) (zEtB h (zLkB b t n) t P)) := by
  refine zMet_of (cc := cX2_lockLine) (maxL := 2) (ret := none) (by decide) rfl (Nat.le_of_ble_eq_true rfl) ?_
  intro p e s m below meth c A ls hx hb hr hml hown hts hK hA hE hlocks hin hM hl
  have hown : s.vm.findClass RX2 = some m.cls := hown
  have hM : zM G A s s.heap [] ([(a.1, .inr (2, [.ref a.2.1, .ref a.2.2.1, .int (h 0), .int (h 1), .int (h 2), .int (h 3), .int (h 4), .int (h 5)])), (a.2.1, .inl (G.2 1, 3, .inl (fun i => h (6 + i)))), (a.2.2.1, .inl (G.2 3, 4, .inr (.inr (.inr (.inr (fun p => some (a.2.2.2 p).1))))))] ++ (bdsW G a.2.2.2 b)) := hM
  have hl : lv_has ls 2 [(0, .ref a.1), (1, .int n)] := hl
  have hw0 := hw
  obtain ⟨hP, hP4, hT, ht4, hS, hS9, hz2, hz4⟩ := hw
  refine lv_aload_n hx hb dX2_lockLine_0 rfl (lv_at hl 0 rfl) ?_
  refine lv_aload_n hx hb dX2_lockLine_1 rfl (lv_at hl 0 rfl) ?_
  refine z_get (ci := 2) (v := .int (h 1)) (C := RX2) (T := TX2) (N := 8) hx hb hts (by decide +kernel) hown hK hM 0 rfl rfl 3 (by decide) (hts (.fieldLink RX2 42 "ShiftIsles$Game" "turn" "I") (by decide +kernel)) (fun _ h9 => h9) rfl dX2_lockLine_2 ?_
  rw [hT]
  refine z_callV (As := [.int (nI t)]) (rest := []) (wc := gmW G a h b) (wr := []) (w1 := gmW G a h b) (ws' := [(a.1, .inr (2, [.ref a.2.1, .ref a.2.2.1, .int (h 0), .int (h 1), .int (h 2), .int (h 3), .int (h 4), .int (h 5)])), (a.2.1, .inl (G.2 1, 3, .inl (fun i => h (6 + i)))), (a.2.2.1, .inl (G.2 3, 4, .inr (.inr (.inr (.inr (fun p => some (a.2.2.2 p).1))))))] ++ (bdsW G a.2.2.2 b)) ⟨hx, hb, hml, hown, hts⟩ (c_boardOf l G a h b t (by omega) ) (cwV 1 hts gX2_lockLine_X2_boardOf rfl rfl rfl (by decide +kernel) ⟨Nat.le_of_ble_eq_true rfl, Nat.le_of_ble_eq_true rfl⟩) 2 rfl rfl rfl rfl hl.1 rfl (Nat.le_of_ble_eq_true rfl) dX2_lockLine_5 ⟨Nat.le_of_ble_eq_true rfl, Nat.le_of_ble_eq_true rfl⟩ hK hE hA hM (pm_self _) (pm_self' _) (fun H locs hM hz => ?_)
  refine lv_iload_n hx hb dX2_lockLine_8 rfl (lv_at hl 1 rfl) ?_
  refine z_callV (As := [.int n]) (rest := []) (wc := bdW G (a.2.2.2 t) (b t)) (wr := [(a.1, .inr (2, [.ref a.2.1, .ref a.2.2.1, .int (h 0), .int (h 1), .int (h 2), .int (h 3), .int (h 4), .int (h 5)])), (a.2.1, .inl (G.2 1, 3, .inl (fun i => h (6 + i)))), (a.2.2.1, .inl (G.2 3, 4, .inr (.inr (.inr (.inr (fun p => some (a.2.2.2 p).1))))))] ++ bdsR G a.2.2.2 b t) (w1 := bdW G (a.2.2.2 t) (upd (b t) 25 n)) (ws' := [(a.1, .inr (2, [.ref a.2.1, .ref a.2.2.1, .int (h 0), .int (h 1), .int (h 2), .int (h 3), .int (h 4), .int (h 5)])), (a.2.1, .inl (G.2 1, 3, .inl (fun i => h (6 + i)))), (a.2.2.1, .inl (G.2 3, 4, .inr (.inr (.inr (.inr (fun p => some (a.2.2.2 p).1))))))] ++ (bdsW G a.2.2.2 (va_up b t (upd (b t) 25 n)))) ⟨hx, hb, hml, hown, hts⟩ (c_lockOn l G (a.2.2.2 t) (b t) n ) (cwV 1 hts gX2_lockLine_X0_lockOn rfl rfl rfl (by decide +kernel) ⟨Nat.le_of_ble_eq_true rfl, Nat.le_of_ble_eq_true rfl⟩) 0 rfl rfl rfl rfl hl.1 rfl (Nat.le_of_ble_eq_true rfl) dX2_lockLine_9 ⟨Nat.le_of_ble_eq_true rfl, Nat.le_of_ble_eq_true rfl⟩ hK hE hA hM (pm_mid _ (bds_pm ht4)) (pm_mu _ (bds_pu ht4)) (fun H locs hM hz => ?_)
  refine lv_aload_n hx hb dX2_lockLine_12 rfl (lv_at hl 0 rfl) ?_
  refine z_callV (As := []) (rest := []) (wc := gmW G a h (va_up b t (upd (b t) 25 n))) (wr := []) (w1 := gmW G a (zEtH h (va_up b t (upd (b t) 25 n)) t P) (zEtB h (va_up b t (upd (b t) 25 n)) t P)) (ws' := [(a.1, .inr (2, [.ref a.2.1, .ref a.2.2.1, .int ((zEtH h (va_up b t (upd (b t) 25 n)) t P) 0), .int ((zEtH h (va_up b t (upd (b t) 25 n)) t P) 1), .int ((zEtH h (va_up b t (upd (b t) 25 n)) t P) 2), .int ((zEtH h (va_up b t (upd (b t) 25 n)) t P) 3), .int ((zEtH h (va_up b t (upd (b t) 25 n)) t P) 4), .int ((zEtH h (va_up b t (upd (b t) 25 n)) t P) 5)])), (a.2.1, .inl (G.2 1, 3, .inl (fun i => (zEtH h (va_up b t (upd (b t) 25 n)) t P) (6 + i)))), (a.2.2.1, .inl (G.2 3, 4, .inr (.inr (.inr (.inr (fun p => some (a.2.2.2 p).1))))))] ++ (bdsW G a.2.2.2 (zEtB h (va_up b t (upd (b t) 25 n)) t P))) ⟨hx, hb, hml, hown, hts⟩ (c_endTurn l G a h (va_up b t (upd (b t) 25 n)) P t S hw0) (cwV 0 hts gX2_lockLine_X2_endTurn rfl rfl rfl (by decide +kernel) ⟨Nat.le_of_ble_eq_true rfl, Nat.le_of_ble_eq_true rfl⟩) 2 rfl rfl rfl rfl hl.1 rfl (Nat.le_of_ble_eq_true rfl) dX2_lockLine_13 ⟨Nat.le_of_ble_eq_true rfl, Nat.le_of_ble_eq_true rfl⟩ hK hE hA hM (pm_self _) (pm_self' _) (fun H locs hM hz => ?_)
  exact z_vret hx hb hr hlocks dX2_lockLine_16 hM (Nat.le_of_ble_eq_true rfl) (Nat.le_of_ble_eq_true rfl)

set_option maxHeartbeats 4000000 in
set_option maxRecDepth 100000 in
theorem c_tryLock (l : Launch) (G : zC) (a : zGA) (h : Nat → Int32) (b : Nat → Nat → Int32) (n : Int32) (P t S : Nat) (hw : zGw h P t S) : zMet l G yX2_tryLock wsX2_tryLock rmX2_tryLock [.ref a.1, .int n] (gmW G a h b) (some (.int (zb (zMe h && zLi n)))) (gmW G a (if (zMe h && zLi n) = true then zEtH h (zLkB b t n) t P else h) (if (zMe h && zLi n) = true then zEtB h (zLkB b t n) t P else b)) := by
  refine zMet_of (cc := cX2_tryLock) (maxL := 2) (ret := (some .boolean)) (by decide) rfl (Nat.le_of_ble_eq_true rfl) ?_
  intro p e s m below meth c A ls hx hb hr hml hown hts hK hA hE hlocks hin hM hl
  have hown : s.vm.findClass RX2 = some m.cls := hown
  have hM : zM G A s s.heap [] ([(a.1, .inr (2, [.ref a.2.1, .ref a.2.2.1, .int (h 0), .int (h 1), .int (h 2), .int (h 3), .int (h 4), .int (h 5)])), (a.2.1, .inl (G.2 1, 3, .inl (fun i => h (6 + i)))), (a.2.2.1, .inl (G.2 3, 4, .inr (.inr (.inr (.inr (fun p => some (a.2.2.2 p).1))))))] ++ (bdsW G a.2.2.2 b)) := hM
  have hl : lv_has ls 2 [(0, .ref a.1), (1, .int n)] := hl
  refine lv_aload_n hx hb dX2_tryLock_0 rfl (lv_at hl 0 rfl) ?_
  refine z_callV (As := []) (rest := []) (wc := gmW G a h b) (wr := []) (w1 := gmW G a h b) (ws' := [(a.1, .inr (2, [.ref a.2.1, .ref a.2.2.1, .int (h 0), .int (h 1), .int (h 2), .int (h 3), .int (h 4), .int (h 5)])), (a.2.1, .inl (G.2 1, 3, .inl (fun i => h (6 + i)))), (a.2.2.1, .inl (G.2 3, 4, .inr (.inr (.inr (.inr (fun p => some (a.2.2.2 p).1))))))] ++ (bdsW G a.2.2.2 b)) ⟨hx, hb, hml, hown, hts⟩ (c_mayEndTurn l G a h b  ) (cwV 0 hts gX2_tryLock_X2_mayEndTurn rfl rfl rfl (by decide +kernel) ⟨Nat.le_of_ble_eq_true rfl, Nat.le_of_ble_eq_true rfl⟩) 2 rfl rfl rfl rfl hl.1 rfl (Nat.le_of_ble_eq_true rfl) dX2_tryLock_1 ⟨Nat.le_of_ble_eq_true rfl, Nat.le_of_ble_eq_true rfl⟩ hK hE hA hM (pm_self _) (pm_self' _) (fun H locs hM hz => ?_)
  refine z_ifeq (tgt := 14) hx hb dX2_tryLock_4 (by decide) (fun c_1 => ?_) (fun c_1 => ?_)
  · skip
    refine lv_iconst (v := 0) hx hb dX2_tryLock_14 (by decide) ?_
    have hc : ¬ ((zMe h && zLi n) = true) := by simp [c_1]
    exact z_zret hx hb hr hlocks dX2_tryLock_15 (by rw [if_neg hc, if_neg hc]; exact hM) (Nat.le_of_ble_eq_true rfl) (Nat.le_of_ble_eq_true rfl) (by first | exact Or.inl rfl | exact Or.inr rfl | exact zb_01 _) (by simp [zb, c_1])
  · skip
    refine lv_iload_n hx hb dX2_tryLock_7 rfl (lv_at hl 1 rfl) ?_
    refine z_callSN (As := [.int n]) (rest := []) (wc := []) (wr := [(a.1, .inr (2, [.ref a.2.1, .ref a.2.2.1, .int (h 0), .int (h 1), .int (h 2), .int (h 3), .int (h 4), .int (h 5)])), (a.2.1, .inl (G.2 1, 3, .inl (fun i => h (6 + i)))), (a.2.2.1, .inl (G.2 3, 4, .inr (.inr (.inr (.inr (fun p => some (a.2.2.2 p).1))))))] ++ (bdsW G a.2.2.2 b)) (w1 := []) (ws' := [(a.1, .inr (2, [.ref a.2.1, .ref a.2.2.1, .int (h 0), .int (h 1), .int (h 2), .int (h 3), .int (h 4), .int (h 5)])), (a.2.1, .inl (G.2 1, 3, .inl (fun i => h (6 + i)))), (a.2.2.1, .inl (G.2 3, 4, .inr (.inr (.inr (.inr (fun p => some (a.2.2.2 p).1))))))] ++ (bdsW G a.2.2.2 b)) ⟨hx, hb, hml, hown, hts⟩ (c_isLine l G n) ⟨va_cnB (host := RX6) 1 hts gX2_tryLock_X6_isLine_n89 rfl rfl rfl (hE.1.1 _ (List.mem_of_getElem? (i := 2) rfl)) (hts _ (by decide +kernel)) (by decide +kernel) ⟨Nat.le_of_ble_eq_true rfl, Nat.le_of_ble_eq_true rfl⟩, hts _ (by decide +kernel), trivial⟩ rfl hl.1 rfl (Nat.le_of_ble_eq_true rfl) dX2_tryLock_8 ⟨Nat.le_of_ble_eq_true rfl, Nat.le_of_ble_eq_true rfl⟩ hK hE hA hM (List.Perm.refl _) (List.Perm.refl _) (fun H locs hM hz => ?_)
    refine z_ifne (tgt := 16) hx hb dX2_tryLock_11 (by decide) (fun c_2 => ?_) (fun c_2 => ?_)
    · skip
      refine lv_aload_n hx hb dX2_tryLock_16 rfl (lv_at hl 0 rfl) ?_
      refine lv_iload_n hx hb dX2_tryLock_17 rfl (lv_at hl 1 rfl) ?_
      refine z_callV (As := [.int n]) (rest := []) (wc := gmW G a h b) (wr := []) (w1 := gmW G a (zEtH h (zLkB b t n) t P) (zEtB h (zLkB b t n) t P)) (ws' := [(a.1, .inr (2, [.ref a.2.1, .ref a.2.2.1, .int ((zEtH h (zLkB b t n) t P) 0), .int ((zEtH h (zLkB b t n) t P) 1), .int ((zEtH h (zLkB b t n) t P) 2), .int ((zEtH h (zLkB b t n) t P) 3), .int ((zEtH h (zLkB b t n) t P) 4), .int ((zEtH h (zLkB b t n) t P) 5)])), (a.2.1, .inl (G.2 1, 3, .inl (fun i => (zEtH h (zLkB b t n) t P) (6 + i)))), (a.2.2.1, .inl (G.2 3, 4, .inr (.inr (.inr (.inr (fun p => some (a.2.2.2 p).1))))))] ++ (bdsW G a.2.2.2 (zEtB h (zLkB b t n) t P))) ⟨hx, hb, hml, hown, hts⟩ (c_lockLine l G a h b n P t S hw) (cwV 1 hts gX2_tryLock_X2_lockLine rfl rfl rfl (by decide +kernel) ⟨Nat.le_of_ble_eq_true rfl, Nat.le_of_ble_eq_true rfl⟩) 2 rfl rfl rfl rfl hl.1 rfl (Nat.le_of_ble_eq_true rfl) dX2_tryLock_18 ⟨Nat.le_of_ble_eq_true rfl, Nat.le_of_ble_eq_true rfl⟩ hK hE hA hM (pm_self _) (pm_self' _) (fun H locs hM hz => ?_)
      refine lv_iconst (v := 1) hx hb dX2_tryLock_21 (by decide) ?_
      have hc : ((zMe h && zLi n) = true) := by simp [c_1, c_2]
      exact z_zret hx hb hr hlocks dX2_tryLock_22 (by rw [if_pos hc, if_pos hc]; exact hM) (Nat.le_of_ble_eq_true rfl) (Nat.le_of_ble_eq_true rfl) (by first | exact Or.inl rfl | exact Or.inr rfl | exact zb_01 _) (by simp [zb, c_1, c_2])
    · skip
      refine lv_iconst (v := 0) hx hb dX2_tryLock_14 (by decide) ?_
      have hc : ¬ ((zMe h && zLi n) = true) := by simp [c_1, c_2]
      exact z_zret hx hb hr hlocks dX2_tryLock_15 (by rw [if_neg hc, if_neg hc]; exact hM) (Nat.le_of_ble_eq_true rfl) (Nat.le_of_ble_eq_true rfl) (by first | exact Or.inl rfl | exact Or.inr rfl | exact zb_01 _) (by simp [zb, c_1, c_2])
