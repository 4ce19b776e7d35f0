/-! Draws, and a board's dealing -/
abbrev drW (q : Nat) (x : Int64) : va_W := [(q, .inr (1, [.long x]))]
def zRk (x : Int64) : Nat := (zNx x).toBitVec.toNat / 2 ^ 33
theorem zRk_lt (x : Int64) : zRk x < 2 ^ 31 := by
  unfold zRk
  have := (zNx x).toBitVec.isLt
  omega
theorem zRn_eq (x : Int64) : zRn x = nI (zRk x) := by
  unfold zRn zRk
  refine Int32.toBitVec_inj.mp ?_
  refine BitVec.eq_of_toNat_eq ?_
  have h1 : ((33 : Int32).toInt64.toUInt64 &&& Int64.toUInt64 63).toNat = 33 := by decide
  have h2 : ((zNx x).toUInt64 >>> ((33 : Int32).toInt64.toUInt64 &&& Int64.toUInt64 63)).toNat = (zNx x).toBitVec.toNat / 2 ^ 33 := by
    rw [UInt64.toNat_shiftRight, h1, Nat.shiftRight_eq_div_pow]
    rfl
  have h3 : (zNx x).toBitVec.toNat / 2 ^ 33 < 2 ^ 31 := zRk_lt x
  rw [pk_tn (by omega)]
  show ((((zNx x).toUInt64 >>> ((33 : Int32).toInt64.toUInt64 &&& Int64.toUInt64 63)).toInt64).toInt32).toBitVec.toNat = _
  rw [Int64.toBitVec_toInt32, BitVec.signExtend_eq_setWidth_of_le _ (by decide), BitVec.toNat_setWidth]
  show ((zNx x).toUInt64 >>> ((33 : Int32).toInt64.toUInt64 &&& Int64.toUInt64 63)).toNat % 2 ^ 32 = _
  rw [h2]
  omega
theorem zBl_eq (x : Int64) {n : Nat} (h0 : 0 < n) (hn : n < 2 ^ 31) : zBl x (nI n) = nI (zRk x % n) := by
  unfold zBl
  rw [zRn_eq]
  exact pk_rem (zRk_lt x) h0 hn
def zHd (v : Int32) (a : Nat) (u : Nat → Int32) : Nat → Nat → Nat → Int32
  | 0, _ => u
  | k + 1, i => if u ((a + i) % 9) = 0 then upd u ((a + i) % 9) v else zHd v a u k (i + 1)
def zEx (u : Nat → Int32) (i j : Nat) : Nat → Int32 := upd (upd u i (u j)) j (u i)
/-- a step done k times, with the numbers i, i + 1 ..; and downwards -/
def zIt {α : Type} (F : Nat → α → α) : Nat → Nat → α → α
  | 0, _, s => s
  | k + 1, i, s => zIt F k (i + 1) (F i s)
theorem zIt_0 {α : Type} (F : Nat → α → α) (i : Nat) (s : α) : zIt F 0 i s = s := rfl
theorem zIt_s {α : Type} (F : Nat → α → α) (k i : Nat) (s : α) : zIt F (k + 1) i s = zIt F k (i + 1) (F i s) := rfl
def zItd {α : Type} (F : Nat → α → α) : Nat → α → α
  | 0, s => s
  | k + 1, s => zItd F k (F (k + 1) s)
theorem zItd_0 {α : Type} (F : Nat → α → α) (s : α) : zItd F 0 s = s := rfl
theorem zItd_s {α : Type} (F : Nat → α → α) (k : Nat) (s : α) : zItd F (k + 1) s = zItd F k (F (k + 1) s) := rfl
def zS1 (i : Nat) (s : Int64 × (Nat → Int32) × (Nat → Int32)) : Int64 × (Nat → Int32) × (Nat → Int32) := (zNx s.1, upd s.2.1 i (nI (1 + zRk s.1 % 15)), upd s.2.2 i 0)
theorem zS1_e (i : Nat) (y : Int64) (o t : Nat → Int32) : zS1 i (y, o, t) = (zNx y, upd o i (nI (1 + zRk y % 15)), upd t i 0) := rfl
def zS2 (i : Nat) (s : Int64 × (Nat → Int32)) : Int64 × (Nat → Int32) := (zNx s.1, zHd (nI i) (zRk s.1 % 9) s.2 9 0)
theorem zS2_e (i : Nat) (y : Int64) (t : Nat → Int32) : zS2 i (y, t) = (zNx y, zHd (nI i) (zRk y % 9) t 9 0) := rfl
def zS3 (i : Nat) (r : Nat → Int32) : Nat → Int32 := upd r i (nI (i + 1))
theorem zS3_e (i : Nat) (r : Nat → Int32) : zS3 i r = upd r i (nI (i + 1)) := rfl
def zS4 (k : Nat) (s : Int64 × (Nat → Int32)) : Int64 × (Nat → Int32) := (zNx s.1, zEx s.2 k (zRk s.1 % (k + 1)))
theorem zS4_e (k : Nat) (y : Int64) (r : Nat → Int32) : zS4 k (y, r) = (zNx y, zEx r k (zRk y % (k + 1))) := rfl
def zDa (f : Nat → Int32) (x : Int64) : Int64 × (Nat → Int32) × (Nat → Int32) := zIt zS1 9 0 (x, (fun i => f i), (fun i => f (9 + i)))
def zDb (f : Nat → Int32) (x : Int64) : Int64 × (Nat → Int32) := zIt zS2 5 1 ((zDa f x).1, (zDa f x).2.2)
def zDo3 (f : Nat → Int32) : Nat → Int32 := zIt zS3 5 0 (fun i => f (18 + i))
def zDc (f : Nat → Int32) (x : Int64) : Int64 × (Nat → Int32) := zItd zS4 4 ((zDb f x).1, zDo3 f)
theorem zDa_e (f : Nat → Int32) (x : Int64) : zDa f x = zIt zS1 9 0 (x, (fun i => f i), (fun i => f (9 + i))) := rfl
theorem zDb_e (f : Nat → Int32) (x : Int64) : zDb f x = zIt zS2 5 1 ((zDa f x).1, (zDa f x).2.2) := rfl
theorem zDo3_e (f : Nat → Int32) : zDo3 f = zIt zS3 5 0 (fun i => f (18 + i)) := rfl
theorem zDc_e (f : Nat → Int32) (x : Int64) : zDc f x = zItd zS4 4 ((zDb f x).1, zDo3 f) := rfl
/-- a board dealt: over what it was, f, with the numbers drawn from x on -/
def zDl (f : Nat → Int32) (x : Int64) : Nat → Int32 := fun k =>
  if k < 9 then (zDa f x).2.1 k
  else if k < 18 then (zDb f x).2 (k - 9)
  else if k < 23 then (zDc f x).2 (k - 18)
  else if k = 23 then 0
  else if k = 24 then 4
  else -1
def zDx (f : Nat → Int32) (x : Int64) : Int64 := (zDc f x).1
theorem zDx_e (f : Nat → Int32) (x : Int64) : zDx f x = (zDc f x).1 := rfl
theorem dl_fold {G : zC} {a : zBA} {f : Nat → Int32} {x : Int64} : zSim [(a.1, .inr (0, [.ref a.2.1, .ref a.2.2.1, .ref a.2.2.2, .int 4, .int 0, .int (-1), .int (-1), .int (-1)])), (a.2.1, .inl (G.2 1, 9, .inl (zDa f x).2.1)), (a.2.2.1, .inl (G.2 1, 9, .inl (zDb f x).2)), (a.2.2.2, .inl (G.2 1, 5, .inl (zDc f x).2))] (bdW G a (zDl f x)) := by
  refine bd_fold rfl rfl rfl rfl rfl (fun i hi => ?_) (fun i hi => ?_) (fun i hi => ?_)
  · unfold zDl
    rw [if_pos hi]
  · unfold zDl
    rw [if_neg (by omega), if_pos (by omega), Nat.add_sub_cancel_left]
  · unfold zDl
    rw [if_neg (by omega), if_neg (by omega), if_pos (by omega), Nat.add_sub_cancel_left]
set_option maxHeartbeats 4000000 in
set_option maxRecDepth 100000 in
theorem c_drInit (l : Launch) (G : zC) (q : Nat) (x : Int64) : zMet l G yX1_init wsX1_init rmX1_init [.ref q] (drW q x) none (drW q x) := by
  refine zMet_of (cc := cX1_init) (maxL := 1) (ret := none) (by decide) rfl (Nat.le_of_ble_eq_true rfl) ?_
  intro p e s m below meth c A ls hx hb hr hml hown hts hK hA hE hlocks hin hM hl
  have hown : s.vm.findClass RX1 = some m.cls := hown
  have hM : zM G A s s.heap [] ([(q, .inr (1, [.long x]))]) := hM
  have hl : lv_has ls 1 [(0, .ref q)] := hl
  refine lv_aload_n hx hb dX1_init_0 rfl (lv_at hl 0 rfl) ?_
  refine W.objInit hx hb hown (hts (.methodLink RX1 1 objectInit) (by decide +kernel)) (hts (.instanceMethod objectInit) (by decide +kernel)) (hts (.code objectInit ⟨#[0xb1]⟩ 1 none) (by decide +kernel)) rfl (by rw [hml]; exact hl.1) rfl dX1_init_1 (Nat.le_of_ble_eq_true rfl) (Nat.le_of_ble_eq_true rfl) ?_
  refine W.eq (g2 := F0 m 4 ls []) rfl ?_
  exact z_vret hx hb hr hlocks dX1_init_4 hM (Nat.le_of_ble_eq_true rfl) (Nat.le_of_ble_eq_true rfl)

set_option maxHeartbeats 4000000 in
set_option maxRecDepth 100000 in
theorem c_startWith (l : Launch) (G : zC) (q : Nat) (x y : Int64) : zMet l G yX1_startWith wsX1_startWith rmX1_startWith [.ref q, .long y] (drW q x) none (drW q y) := by
  refine zMet_of (cc := cX1_startWith) (maxL := 3) (ret := none) (by decide) rfl (Nat.le_of_ble_eq_true rfl) ?_
  intro p e s m below meth c A ls hx hb hr hml hown hts hK hA hE hlocks hin hM hl
  have hown : s.vm.findClass RX1 = some m.cls := hown
  have hM : zM G A s s.heap [] ([(q, .inr (1, [.long x]))]) := hM
  have hl : lv_has ls 3 [(0, .ref q), (1, .long y)] := hl
  refine lv_aload_n hx hb dX1_startWith_0 rfl (lv_at hl 0 rfl) ?_
  refine lv_lload_n hx hb dX1_startWith_1 rfl (lv_at hl 1 rfl) ?_
  refine z_put (ci := 1) (ty := .long) (v := .long y) (C := RX1) (T := TX1) (N := 1) (ws' := [(q, .inr (1, [.long y]))]) hx hb hts (by decide +kernel) tyX1 tyX1_ok nmX1 hown hK hM 0 rfl rfl 0 (by decide) (hts (.fieldLink RX1 7 "ShiftIsles$Draws" "x" "J") (by decide +kernel)) (fun _ h9 => h9) rfl (by decide +kernel) rfl rfl (Nat.le_of_ble_eq_true rfl) dX1_startWith_2 rfl (fun H locs hM => ?_)
  exact z_vret hx hb hr hlocks dX1_startWith_5 hM (Nat.le_of_ble_eq_true rfl) (Nat.le_of_ble_eq_true rfl)

set_option maxHeartbeats 4000000 in
set_option maxRecDepth 100000 in
theorem c_next (l : Launch) (G : zC) (q : Nat) (x : Int64) : zMet l G yX1_next wsX1_next rmX1_next [.ref q] (drW q x) (some (.int (nI (zRk x)))) (drW q (zNx x)) := by
  refine zMet_of (cc := cX1_next) (maxL := 1) (ret := (some .int)) (by decide) rfl (Nat.le_of_ble_eq_true rfl) ?_
  intro p e s m below meth c A ls hx hb hr hml hown hts hK hA hE hlocks hin hM hl
  have hown : s.vm.findClass RX1 = some m.cls := hown
  have hM : zM G A s s.heap [] ([(q, .inr (1, [.long x]))]) := hM
  have hl : lv_has ls 1 [(0, .ref q)] := hl
  refine lv_aload_n hx hb dX1_next_0 rfl (lv_at hl 0 rfl) ?_
  refine lv_aload_n hx hb dX1_next_1 rfl (lv_at hl 0 rfl) ?_
  refine z_get (ci := 1) (v := .long x) (C := RX1) (T := TX1) (N := 1) hx hb hts (by decide +kernel) hown hK hM 0 rfl rfl 0 (by decide) (hts (.fieldLink RX1 7 "ShiftIsles$Draws" "x" "J") (by decide +kernel)) (fun _ h9 => h9) rfl dX1_next_2 ?_
  refine lv_ldc2 (v := 6364136223846793005) hx hb hown (hts (.constantLong RX1 13 6364136223846793005) (by decide +kernel)) dX1_next_5 ?_
  refine lv_lmul hx hb dX1_next_8 ?_
  refine lv_ldc2 (v := 1442695040888963407) hx hb hown (hts (.constantLong RX1 15 1442695040888963407) (by decide +kernel)) dX1_next_9 ?_
  refine lv_ladd hx hb dX1_next_12 ?_
  refine z_put (ci := 1) (ty := .long) (v := .long ((x * 6364136223846793005) + 1442695040888963407)) (C := RX1) (T := TX1) (N := 1) (ws' := [(q, .inr (1, [.long ((x * 6364136223846793005) + 1442695040888963407)]))]) hx hb hts (by decide +kernel) tyX1 tyX1_ok nmX1 hown hK hM 0 rfl rfl 0 (by decide) (hts (.fieldLink RX1 7 "ShiftIsles$Draws" "x" "J") (by decide +kernel)) (fun _ h9 => h9) rfl (by decide +kernel) rfl rfl (Nat.le_of_ble_eq_true rfl) dX1_next_13 rfl (fun H locs hM => ?_)
  refine lv_aload_n hx hb dX1_next_16 rfl (lv_at hl 0 rfl) ?_
  refine z_get (ci := 1) (v := .long ((x * 6364136223846793005) + 1442695040888963407)) (C := RX1) (T := TX1) (N := 1) hx hb hts (by decide +kernel) hown hK hM 0 rfl rfl 0 (by decide) (hts (.fieldLink RX1 7 "ShiftIsles$Draws" "x" "J") (by decide +kernel)) (fun _ h9 => h9) rfl dX1_next_17 ?_
  refine lv_bipush (v := (33 : Int32)) hx hb dX1_next_20 (by decide) ?_
  refine lv_lushr (v := (((x * 6364136223846793005) + 1442695040888963407).toUInt64 >>> ((33 : Int32).toInt64.toUInt64 &&& Int64.toUInt64 63)).toInt64) hx hb dX1_next_22 rfl ?_
  refine lv_l2i (v := ((((x * 6364136223846793005) + 1442695040888963407).toUInt64 >>> ((33 : Int32).toInt64.toUInt64 &&& Int64.toUInt64 63)).toInt64).toInt32) hx hb dX1_next_23 rfl ?_
  exact z_iret hx hb hr hlocks dX1_next_24 hM (Nat.le_of_ble_eq_true rfl) (Nat.le_of_ble_eq_true rfl) (by rw [← zRn_eq]; rfl)

set_option maxHeartbeats 4000000 in
set_option maxRecDepth 100000 in
theorem c_below (l : Launch) (G : zC) (q : Nat) (x : Int64) (n : Nat) (h0 : 0 < n) (hn : n < 100) : zMet l G yX1_below wsX1_below rmX1_below [.ref q, .int (nI n)] (drW q x) (some (.int (nI (zRk x % n)))) (drW q (zNx x)) := by
  refine zMet_of (cc := cX1_below) (maxL := 3) (ret := (some .int)) (by decide) rfl (Nat.le_of_ble_eq_true rfl) ?_
  intro p e s m below meth c A ls hx hb hr hml hown hts hK hA hE hlocks hin hM hl
  have hown : s.vm.findClass RX1 = some m.cls := hown
  have hM : zM G A s s.heap [] ([(q, .inr (1, [.long x]))]) := hM
  have hl : lv_has ls 3 [(0, .ref q), (1, .int (nI n))] := hl
  refine lv_aload_n hx hb dX1_below_0 rfl (lv_at hl 0 rfl) ?_
  refine z_callV (As := []) (rest := []) (wc := drW q x) (wr := []) (w1 := drW q (zNx x)) (ws' := [(q, .inr (1, [.long (zNx x)]))]) ⟨hx, hb, hml, hown, hts⟩ (c_next l G q x ) (cwV 0 hts gX1_below_X1_next rfl rfl rfl (by decide +kernel) ⟨Nat.le_of_ble_eq_true rfl, Nat.le_of_ble_eq_true rfl⟩) 1 rfl rfl rfl rfl hl.1 rfl (Nat.le_of_ble_eq_true rfl) dX1_below_1 ⟨Nat.le_of_ble_eq_true rfl, Nat.le_of_ble_eq_true rfl⟩ hK hE hA hM (pm_at 1 [0] [] rfl rfl rfl (by decide)) ((pm_at 1 [0] [] rfl rfl rfl (by decide))).symm (fun H locs hM hz => ?_)
  refine lv_istore_n (lv' := [(2, .int (nI (zRk x))), (0, .ref q), (1, .int (nI n))]) hx hb dX1_below_4 rfl hl (by decide) rfl (fun ls hl => ?_)
  refine lv_iload_n hx hb dX1_below_5 rfl (lv_at hl 2 rfl) ?_
  refine lv_if_le (tgt := 15) hx hb dX1_below_6 (by decide) (fun c_1 => absurd c_1 (nI_nle h0 (by omega))) (fun c_1 => ?_)
  refine lv_iload_n hx hb dX1_below_9 rfl (lv_at hl 0 rfl) ?_
  refine lv_iload_n hx hb dX1_below_10 rfl (lv_at hl 2 rfl) ?_
  refine lv_irem hx hb dX1_below_11 (nI_ne0 h0 (by omega)) ?_
  refine lv_goto (tgt := 16) hx hb dX1_below_12 (by decide) ?_
  exact z_iret hx hb hr hlocks dX1_below_16 hM (Nat.le_of_ble_eq_true rfl) (Nat.le_of_ble_eq_true rfl) (by rw [pk_rem (zRk_lt x) h0 (by omega)])

set_option maxHeartbeats 4000000 in
set_option maxRecDepth 100000 in
theorem c_hide (l : Launch) (G : zC) (b t : Nat) (p1 p3 v3 v4 v5 v6 v7 : Value) (u : Nat → Int32) (v : Int32) (n : Nat) (hn : n < 9) : zMet l G yX0_hide wsX0_hide rmX0_hide [.ref b, .int v, .int (nI n)] ([(b, .inr (0, [p1, .ref t, p3, v3, v4, v5, v6, v7])), (t, .inl (G.2 1, 9, .inl u))]) none ([(b, .inr (0, [p1, .ref t, p3, v3, v4, v5, v6, v7])), (t, .inl (G.2 1, 9, .inl (zHd v n u 9 0)))]) := by
  refine zMet_of (cc := cX0_hide) (maxL := 5) (ret := none) (by decide) rfl (Nat.le_of_ble_eq_true rfl) ?_
  intro p e s m below meth c A ls hx hb hr hml hown hts hK hA hE hlocks hin hM hl
  have hown : s.vm.findClass RX0 = some m.cls := hown
  have hM : zM G A s s.heap [] ([(b, .inr (0, [p1, .ref t, p3, v3, v4, v5, v6, v7])), (t, .inl (G.2 1, 9, .inl u))]) := hM
  have hl : lv_has ls 5 [(0, .ref b), (1, .int v), (2, .int (nI n))] := hl
  refine lv_iconst (v := nI 0) hx hb dX0_hide_0 (by decide) ?_
  refine lv_istore_n (lv' := [(3, .int (nI 0)), (0, .ref b), (1, .int v), (2, .int (nI n))]) hx hb dX0_hide_1 rfl hl (by decide) rfl (fun ls hl => ?_)
  have lp2 : ∀ (k : Nat) (i : Nat), (i + k = 9) → (zHd v n u 9 0 = zHd v n u k i) → ∀ (H : Heap) (locs : List Loc), zM G A s H locs ([(b, .inr (0, [p1, .ref t, p3, v3, v4, v5, v6, v7])), (t, .inl (G.2 1, 9, .inl u))]) → ∀ ls : Array Slot, lv_has ls 5 [(0, .ref b), (1, .int v), (2, .int (nI n)), (3, .int (nI i))] → W p l e rmX0_hide s m ([.ref b, .int v, .int (nI n)] : List Value).toArray below meth c H locs 0 0 (zEnd G below ([.ref b, .int v, .int (nI n)] : List Value).toArray s rmX0_hide A none ([(b, .inr (0, [p1, .ref t, p3, v3, v4, v5, v6, v7])), (t, .inl (G.2 1, 9, .inl (zHd v n u 9 0)))])) (F0 m 2 ls []) := by
    intro k
    induction k with
    | zero =>
      intro i hik hR H locs hM ls hl
      refine lv_iload_n hx hb dX0_hide_2 rfl (lv_at hl 3 rfl) ?_
      refine lv_bipush (v := nI 9) hx hb dX0_hide_3 (by decide) ?_
      refine lv_icmp_ge (tgt := 49) hx hb dX0_hide_5 (by decide) (fun c_1 => ?_) (fun c_1 => absurd (nI_le (by omega) (by omega)) c_1)
      exact z_vret hx hb hr hlocks dX0_hide_49 (by rw [hR]; exact hM) (Nat.le_of_ble_eq_true rfl) (Nat.le_of_ble_eq_true rfl)
    | succ k ih =>
      intro i hik hR H locs hM ls hl
      refine lv_iload_n hx hb dX0_hide_2 rfl (lv_at hl 3 rfl) ?_
      refine lv_bipush (v := nI 9) hx hb dX0_hide_3 (by decide) ?_
      refine lv_icmp_ge (tgt := 49) hx hb dX0_hide_5 (by decide) (fun c_2 => absurd c_2 (nI_ge (by omega) (by omega))) (fun c_2 => ?_)
      refine lv_iload_n hx hb dX0_hide_8 rfl (lv_at hl 2 rfl) ?_
      refine lv_iload_n hx hb dX0_hide_9 rfl (lv_at hl 3 rfl) ?_
      refine lv_iadd hx hb dX0_hide_10 ?_
      rw [nI_add n i]
      refine lv_bipush (v := nI 9) hx hb dX0_hide_11 (by decide) ?_
      refine lv_irem hx hb dX0_hide_13 (by decide) ?_
      rw [pk_rem (a := (n + i)) (d := 9) (by omega) (by decide) (by decide)]
      refine lv_istore (lv' := [(4, .int (nI ((n + i) % 9))), (0, .ref b), (1, .int v), (2, .int (nI n)), (3, .int (nI i))]) hx hb dX0_hide_14 hl (by decide) rfl (fun ls hl => ?_)
      refine lv_iload hx hb dX0_hide_16 (lv_at hl 0 rfl) ?_
      refine z_callSN (As := [.int (nI ((n + i) % 9))]) (rest := []) (wc := []) (wr := [(b, .inr (0, [p1, .ref t, p3, v3, v4, v5, v6, v7])), (t, .inl (G.2 1, 9, .inl u))]) (w1 := []) (ws' := [(b, .inr (0, [p1, .ref t, p3, v3, v4, v5, v6, v7])), (t, .inl (G.2 1, 9, .inl u))]) ⟨hx, hb, hml, hown, hts⟩ (c_isPlace l G (nI ((n + i) % 9))) ⟨va_cnB (host := RX6) 1 hts gX0_hide_X6_isPlace_n56 rfl rfl rfl (hE.1.1 _ (List.mem_of_getElem? (i := 1) rfl)) (hts _ (by decide +kernel)) (by decide +kernel) ⟨Nat.le_of_ble_eq_true rfl, Nat.le_of_ble_eq_true rfl⟩, hts _ (by decide +kernel), trivial⟩ rfl hl.1 rfl (Nat.le_of_ble_eq_true rfl) dX0_hide_18 ⟨Nat.le_of_ble_eq_true rfl, Nat.le_of_ble_eq_true rfl⟩ hK hE hA hM (List.Perm.refl _) (List.Perm.refl _) (fun H locs hM hz => ?_)
      refine z_ifeq (tgt := 43) hx hb dX0_hide_21 (by decide) (fun c_3 => absurd (zPl_nI (k := (n + i) % 9) (by omega)) (by rw [c_3]; decide)) (fun c_3 => ?_)
      refine lv_aload_n hx hb dX0_hide_24 rfl (lv_at hl 1 rfl) ?_
      refine z_get (ci := 0) (v := .ref t) (C := RX0) (T := TX0) (N := 8) hx hb hts (by decide +kernel) hown hK hM 0 rfl rfl 1 (by decide) (hts (.fieldLink RX0 15 "ShiftIsles$Board" "treasures" "[I") (by decide +kernel)) (fun _ h9 => h9) rfl dX0_hide_25 ?_
      refine lv_iload hx hb dX0_hide_28 (lv_at hl 0 rfl) ?_
      refine z_iald hx hb hK hM 1 rfl (v := u ((n + i) % 9)) (vp_in_nI (by omega) (by decide)) (by rw [nI_clamp (by omega)]) dX0_hide_30 ?_
      refine lv_if_ne (tgt := 43) hx hb dX0_hide_31 (by decide) (fun c_z => ?_) (fun c_z => ?_)
      · skip
        refine lv_iinc (v := nI (i + 1)) (lv' := [(3, .int (nI (i + 1))), (4, .int (nI ((n + i) % 9))), (0, .ref b), (1, .int v), (2, .int (nI n))]) hx hb dX0_hide_43 hl (k := 4) rfl (nI_1 i) (by decide) rfl (fun ls hl => ?_)
        refine lv_goto (tgt := 2) hx hb dX0_hide_46 (by decide) ?_
        exact ih (i + 1) (by omega) (by rw [hR, zHd, if_neg c_z]) _ _ hM _ (lv_sub hl [2, 3, 4, 0] rfl)
      · skip
        refine lv_aload_n hx hb dX0_hide_34 rfl (lv_at hl 1 rfl) ?_
        refine z_get (ci := 0) (v := .ref t) (C := RX0) (T := TX0) (N := 8) hx hb hts (by decide +kernel) hown hK hM 0 rfl rfl 1 (by decide) (hts (.fieldLink RX0 15 "ShiftIsles$Board" "treasures" "[I") (by decide +kernel)) (fun _ h9 => h9) rfl dX0_hide_35 ?_
        refine lv_iload hx hb dX0_hide_38 (lv_at hl 0 rfl) ?_
        refine lv_iload_n hx hb dX0_hide_40 rfl (lv_at hl 2 rfl) ?_
        refine z_iast (ws' := [(b, .inr (0, [p1, .ref t, p3, v3, v4, v5, v6, v7])), (t, .inl (G.2 1, 9, .inl (upd u ((n + i) % 9) v)))]) hx hb hK hM 1 rfl (vp_in_nI (by omega) (by decide)) dX0_hide_41 (by rw [nI_clamp (by omega)]; rfl) (fun H locs hM => ?_)
        exact z_vret hx hb hr hlocks dX0_hide_42 (by rw [hR, zHd, if_pos c_z]; exact hM) (Nat.le_of_ble_eq_true rfl) (Nat.le_of_ble_eq_true rfl)
  exact lp2 9 0 rfl rfl _ _ hM _ (lv_sub hl [1, 2, 3, 0] rfl)

set_option maxHeartbeats 4000000 in
set_option maxRecDepth 100000 in
theorem c_exch (l : Launch) (G : zC) (b t : Nat) (p1 p2 v3 v4 v5 v6 v7 : Value) (u : Nat → Int32) (i j : Nat) (hi : i < 5) (hj : j < 5) : zMet l G yX0_exchange wsX0_exchange rmX0_exchange [.ref b, .int (nI i), .int (nI j)] ([(b, .inr (0, [p1, p2, .ref t, v3, v4, v5, v6, v7])), (t, .inl (G.2 1, 5, .inl u))]) none ([(b, .inr (0, [p1, p2, .ref t, v3, v4, v5, v6, v7])), (t, .inl (G.2 1, 5, .inl (zEx u i j)))]) := by
  refine zMet_of (cc := cX0_exchange) (maxL := 4) (ret := none) (by decide) rfl (Nat.le_of_ble_eq_true rfl) ?_
  intro p e s m below meth c A ls hx hb hr hml hown hts hK hA hE hlocks hin hM hl
  have hown : s.vm.findClass RX0 = some m.cls := hown
  have hM : zM G A s s.heap [] ([(b, .inr (0, [p1, p2, .ref t, v3, v4, v5, v6, v7])), (t, .inl (G.2 1, 5, .inl u))]) := hM
  have hl : lv_has ls 4 [(0, .ref b), (1, .int (nI i)), (2, .int (nI j))] := hl
  refine lv_iload_n hx hb dX0_exchange_0 rfl (lv_at hl 1 rfl) ?_
  refine lv_if_lt (tgt := 18) hx hb dX0_exchange_1 (by decide) (fun c_1 => absurd c_1 (nI_pos (by omega))) (fun c_1 => ?_)
  refine lv_iload_n hx hb dX0_exchange_4 rfl (lv_at hl 1 rfl) ?_
  refine lv_iconst (v := nI 5) hx hb dX0_exchange_5 (by decide) ?_
  refine lv_icmp_ge (tgt := 18) hx hb dX0_exchange_6 (by decide) (fun c_2 => absurd c_2 (nI_ge (by omega) (by decide))) (fun c_2 => ?_)
  refine lv_iload_n hx hb dX0_exchange_9 rfl (lv_at hl 2 rfl) ?_
  refine lv_if_lt (tgt := 18) hx hb dX0_exchange_10 (by decide) (fun c_3 => absurd c_3 (nI_pos (by omega))) (fun c_3 => ?_)
  refine lv_iload_n hx hb dX0_exchange_13 rfl (lv_at hl 2 rfl) ?_
  refine lv_iconst (v := nI 5) hx hb dX0_exchange_14 (by decide) ?_
  refine lv_icmp_lt (tgt := 19) hx hb dX0_exchange_15 (by decide) (fun c_4 => ?_) (fun c_4 => absurd (nI_lt (by omega) (by decide)) c_4)
  refine lv_aload_n hx hb dX0_exchange_19 rfl (lv_at hl 0 rfl) ?_
  refine z_get (ci := 0) (v := .ref t) (C := RX0) (T := TX0) (N := 8) hx hb hts (by decide +kernel) hown hK hM 0 rfl rfl 2 (by decide) (hts (.fieldLink RX0 18 "ShiftIsles$Board" "order" "[I") (by decide +kernel)) (fun _ h9 => h9) rfl dX0_exchange_20 ?_
  refine lv_iload_n hx hb dX0_exchange_23 rfl (lv_at hl 1 rfl) ?_
  refine z_iald hx hb hK hM 1 rfl (v := u i) (vp_in_nI (by omega) (by decide)) (by rw [nI_clamp (by omega)]) dX0_exchange_24 ?_
  refine lv_istore_n (lv' := [(3, .int (u i)), (0, .ref b), (1, .int (nI i)), (2, .int (nI j))]) hx hb dX0_exchange_25 rfl hl (by decide) rfl (fun ls hl => ?_)
  refine lv_aload_n hx hb dX0_exchange_26 rfl (lv_at hl 1 rfl) ?_
  refine z_get (ci := 0) (v := .ref t) (C := RX0) (T := TX0) (N := 8) hx hb hts (by decide +kernel) hown hK hM 0 rfl rfl 2 (by decide) (hts (.fieldLink RX0 18 "ShiftIsles$Board" "order" "[I") (by decide +kernel)) (fun _ h9 => h9) rfl dX0_exchange_27 ?_
  refine lv_iload_n hx hb dX0_exchange_30 rfl (lv_at hl 2 rfl) ?_
  refine lv_aload_n hx hb dX0_exchange_31 rfl (lv_at hl 1 rfl) ?_
  refine z_get (ci := 0) (v := .ref t) (C := RX0) (T := TX0) (N := 8) hx hb hts (by decide +kernel) hown hK hM 0 rfl rfl 2 (by decide) (hts (.fieldLink RX0 18 "ShiftIsles$Board" "order" "[I") (by decide +kernel)) (fun _ h9 => h9) rfl dX0_exchange_32 ?_
  refine lv_iload_n hx hb dX0_exchange_35 rfl (lv_at hl 3 rfl) ?_
  refine z_iald hx hb hK hM 1 rfl (v := u j) (vp_in_nI (by omega) (by decide)) (by rw [nI_clamp (by omega)]) dX0_exchange_36 ?_
  refine z_iast (ws' := [(b, .inr (0, [p1, p2, .ref t, v3, v4, v5, v6, v7])), (t, .inl (G.2 1, 5, .inl (upd u i (u j))))]) hx hb hK hM 1 rfl (vp_in_nI (by omega) (by decide)) dX0_exchange_37 (by rw [nI_clamp (by omega)]; rfl) (fun H locs hM => ?_)
  refine lv_aload_n hx hb dX0_exchange_38 rfl (lv_at hl 1 rfl) ?_
  refine z_get (ci := 0) (v := .ref t) (C := RX0) (T := TX0) (N := 8) hx hb hts (by decide +kernel) hown hK hM 0 rfl rfl 2 (by decide) (hts (.fieldLink RX0 18 "ShiftIsles$Board" "order" "[I") (by decide +kernel)) (fun _ h9 => h9) rfl dX0_exchange_39 ?_
  refine lv_iload_n hx hb dX0_exchange_42 rfl (lv_at hl 3 rfl) ?_
  refine lv_iload_n hx hb dX0_exchange_43 rfl (lv_at hl 0 rfl) ?_
  refine z_iast (ws' := [(b, .inr (0, [p1, p2, .ref t, v3, v4, v5, v6, v7])), (t, .inl (G.2 1, 5, .inl (upd (upd u i (u j)) j (u i))))]) hx hb hK hM 1 rfl (vp_in_nI (by omega) (by decide)) dX0_exchange_44 (by rw [nI_clamp (by omega)]; rfl) (fun H locs hM => ?_)
  exact z_vret hx hb hr hlocks dX0_exchange_45 hM (Nat.le_of_ble_eq_true rfl) (Nat.le_of_ble_eq_true rfl)

set_option maxHeartbeats 4000000 in
set_option maxRecDepth 100000 in
theorem c_bdDeal (l : Launch) (G : zC) (a : zBA) (f : Nat → Int32) (q : Nat) (x : Int64) : zMet l G yX0_deal wsX0_deal rmX0_deal [.ref a.1, .ref q] (bdW G a f ++ drW q x) none (bdW G a (zDl f x) ++ drW q (zDx f x)) := by
  refine zMet_of (cc := cX0_deal) (maxL := 3) (ret := none) (by decide) rfl (Nat.le_of_ble_eq_true rfl) ?_
  intro p e s m below meth c A ls hx hb hr hml hown hts hK hA hE hlocks hin hM hl
  have hown : s.vm.findClass RX0 = some m.cls := hown
  have hM : zM G A s s.heap [] ([(a.1, .inr (0, [.ref a.2.1, .ref a.2.2.1, .ref a.2.2.2, .int (f 24), .int (f 23), .int (f 25), .int (f 26), .int (f 27)])), (a.2.1, .inl (G.2 1, 9, .inl (fun i => f i))), (a.2.2.1, .inl (G.2 1, 9, .inl (fun i => f (9 + i)))), (a.2.2.2, .inl (G.2 1, 5, .inl (fun i => f (18 + i)))), (q, .inr (1, [.long x]))]) := hM
  have hl : lv_has ls 3 [(0, .ref a.1), (1, .ref q)] := hl
  refine lv_iconst (v := nI 0) hx hb dX0_deal_0 (by decide) ?_
  refine lv_istore_n (lv' := [(2, .int (nI 0)), (0, .ref a.1), (1, .ref q)]) hx hb dX0_deal_1 rfl hl (by decide) rfl (fun ls hl => ?_)
  have lp2 : ∀ (k : Nat) (i : Nat) (y : Int64) (o t : Nat → Int32), (i + k = 9) → (zDa f x = zIt zS1 k i (y, o, t)) → ∀ (H : Heap) (locs : List Loc), zM G A s H locs ([(a.1, .inr (0, [.ref a.2.1, .ref a.2.2.1, .ref a.2.2.2, .int (f 24), .int (f 23), .int (f 25), .int (f 26), .int (f 27)])), (a.2.1, .inl (G.2 1, 9, .inl o)), (a.2.2.1, .inl (G.2 1, 9, .inl t)), (a.2.2.2, .inl (G.2 1, 5, .inl (fun i => f (18 + i)))), (q, .inr (1, [.long y]))]) → ∀ ls : Array Slot, lv_has ls 3 [(0, .ref a.1), (1, .ref q), (2, .int (nI i))] → W p l e rmX0_deal s m ([.ref a.1, .ref q] : List Value).toArray below meth c H locs 0 0 (zEnd G below ([.ref a.1, .ref q] : List Value).toArray s rmX0_deal A none (bdW G a (zDl f x) ++ drW q (zDx f x))) (F0 m 2 ls []) := by
    intro k
    induction k with
    | zero =>
      intro i y o t hik h1 H locs hM ls hl
      have e1 : zDa f x = (y, o, t) := by rw [h1, zIt_0]
      refine lv_iload_n hx hb dX0_deal_2 rfl (lv_at hl 2 rfl) ?_
      refine lv_bipush (v := nI 9) hx hb dX0_deal_3 (by decide) ?_
      refine lv_icmp_ge (tgt := 35) hx hb dX0_deal_5 (by decide) (fun c_1 => ?_) (fun c_1 => absurd (nI_le (by omega) (by omega)) c_1)
      refine lv_iconst (v := nI 1) hx hb dX0_deal_35 (by decide) ?_
      refine lv_istore_n (lv' := [(2, .int (nI 1)), (0, .ref a.1), (1, .ref q)]) hx hb dX0_deal_36 rfl hl (by decide) rfl (fun ls hl => ?_)
      have lp37 : ∀ (k : Nat) (i : Nat) (y : Int64) (t : Nat → Int32), (i + k = 6) → (zDb f x = zIt zS2 k i (y, t)) → (1 ≤ i) → ∀ (H : Heap) (locs : List Loc), zM G A s H locs ([(a.1, .inr (0, [.ref a.2.1, .ref a.2.2.1, .ref a.2.2.2, .int (f 24), .int (f 23), .int (f 25), .int (f 26), .int (f 27)])), (a.2.1, .inl (G.2 1, 9, .inl o)), (a.2.2.1, .inl (G.2 1, 9, .inl t)), (a.2.2.2, .inl (G.2 1, 5, .inl (fun i => f (18 + i)))), (q, .inr (1, [.long y]))]) → ∀ ls : Array Slot, lv_has ls 3 [(0, .ref a.1), (1, .ref q), (2, .int (nI i))] → W p l e rmX0_deal s m ([.ref a.1, .ref q] : List Value).toArray below meth c H locs 0 0 (zEnd G below ([.ref a.1, .ref q] : List Value).toArray s rmX0_deal A none (bdW G a (zDl f x) ++ drW q (zDx f x))) (F0 m 37 ls []) := by
        intro k
        induction k with
        | zero =>
          intro i y t hik h2 hi1 H locs hM ls hl
          have e2 : zDb f x = (y, t) := by rw [h2, zIt_0]
          refine lv_iload_n hx hb dX0_deal_37 rfl (lv_at hl 2 rfl) ?_
          refine lv_iconst (v := nI 5) hx hb dX0_deal_38 (by decide) ?_
          refine lv_icmp_gt (tgt := 59) hx hb dX0_deal_39 (by decide) (fun c_2 => ?_) (fun c_2 => absurd (nI_lt (by omega) (by omega)) c_2)
          refine lv_iconst (v := nI 0) hx hb dX0_deal_59 (by decide) ?_
          refine lv_istore_n (lv' := [(2, .int (nI 0)), (0, .ref a.1), (1, .ref q)]) hx hb dX0_deal_60 rfl hl (by decide) rfl (fun ls hl => ?_)
          have lp61 : ∀ (k : Nat) (i : Nat) (r : Nat → Int32), (i + k = 5) → (zDo3 f = zIt zS3 k i r) → ∀ (H : Heap) (locs : List Loc), zM G A s H locs ([(a.1, .inr (0, [.ref a.2.1, .ref a.2.2.1, .ref a.2.2.2, .int (f 24), .int (f 23), .int (f 25), .int (f 26), .int (f 27)])), (a.2.1, .inl (G.2 1, 9, .inl o)), (a.2.2.1, .inl (G.2 1, 9, .inl t)), (a.2.2.2, .inl (G.2 1, 5, .inl r)), (q, .inr (1, [.long y]))]) → ∀ ls : Array Slot, lv_has ls 3 [(0, .ref a.1), (1, .ref q), (2, .int (nI i))] → W p l e rmX0_deal s m ([.ref a.1, .ref q] : List Value).toArray below meth c H locs 0 0 (zEnd G below ([.ref a.1, .ref q] : List Value).toArray s rmX0_deal A none (bdW G a (zDl f x) ++ drW q (zDx f x))) (F0 m 61 ls []) := by
            intro k
            induction k with
            | zero =>
              intro i r hik h3 H locs hM ls hl
              have e3 : zDo3 f = r := by rw [h3, zIt_0]
              refine lv_iload_n hx hb dX0_deal_61 rfl (lv_at hl 2 rfl) ?_
              refine lv_iconst (v := nI 5) hx hb dX0_deal_62 (by decide) ?_
              refine lv_icmp_ge (tgt := 81) hx hb dX0_deal_63 (by decide) (fun c_3 => ?_) (fun c_3 => absurd (nI_le (by omega) (by omega)) c_3)
              refine lv_iconst (v := nI 4) hx hb dX0_deal_81 (by decide) ?_
              refine lv_istore_n (lv' := [(2, .int (nI 4)), (0, .ref a.1), (1, .ref q)]) hx hb dX0_deal_82 rfl hl (by decide) rfl (fun ls hl => ?_)
              have lp83 : ∀ (k : Nat) (i : Nat) (y : Int64) (r : Nat → Int32), (i = k) → (zDc f x = zItd zS4 k (y, r)) → (i ≤ 4) → ∀ (H : Heap) (locs : List Loc), zM G A s H locs ([(a.1, .inr (0, [.ref a.2.1, .ref a.2.2.1, .ref a.2.2.2, .int (f 24), .int (f 23), .int (f 25), .int (f 26), .int (f 27)])), (a.2.1, .inl (G.2 1, 9, .inl o)), (a.2.2.1, .inl (G.2 1, 9, .inl t)), (a.2.2.2, .inl (G.2 1, 5, .inl r)), (q, .inr (1, [.long y]))]) → ∀ ls : Array Slot, lv_has ls 3 [(0, .ref a.1), (1, .ref q), (2, .int (nI i))] → W p l e rmX0_deal s m ([.ref a.1, .ref q] : List Value).toArray below meth c H locs 0 0 (zEnd G below ([.ref a.1, .ref q] : List Value).toArray s rmX0_deal A none (bdW G a (zDl f x) ++ drW q (zDx f x))) (F0 m 83 ls []) := by
                intro k
                induction k with
                | zero =>
                  intro i y r hik h4 hi4 H locs hM ls hl
                  subst hik
                  have e4 : zDc f x = (y, r) := by rw [h4, zItd_0]
                  refine lv_iload_n hx hb dX0_deal_83 rfl (lv_at hl 2 rfl) ?_
                  refine lv_iconst (v := nI 1) hx hb dX0_deal_84 (by decide) ?_
                  refine lv_icmp_lt (tgt := 106) hx hb dX0_deal_85 (by decide) (fun c_4 => ?_) (fun c_4 => absurd (nI_lt (by omega) (by omega)) c_4)
                  refine lv_aload_n hx hb dX0_deal_106 rfl (lv_at hl 0 rfl) ?_
                  refine lv_iconst (v := 4) hx hb dX0_deal_107 (by decide) ?_
                  refine z_put (ci := 0) (ty := .int) (v := .int 4) (C := RX0) (T := TX0) (N := 8) (ws' := [(a.1, .inr (0, [.ref a.2.1, .ref a.2.2.1, .ref a.2.2.2, .int 4, .int (f 23), .int (f 25), .int (f 26), .int (f 27)])), (a.2.1, .inl (G.2 1, 9, .inl o)), (a.2.2.1, .inl (G.2 1, 9, .inl t)), (a.2.2.2, .inl (G.2 1, 5, .inl r)), (q, .inr (1, [.long y]))]) hx hb hts (by decide +kernel) tyX0 tyX0_ok nmX0 hown hK hM 0 rfl rfl 3 (by decide) (hts (.fieldLink RX0 27 "ShiftIsles$Board" "ship" "I") (by decide +kernel)) (fun _ h9 => h9) rfl (by decide +kernel) rfl rfl (Nat.le_of_ble_eq_true rfl) dX0_deal_108 rfl (fun H locs hM => ?_)
                  refine lv_aload_n hx hb dX0_deal_111 rfl (lv_at hl 0 rfl) ?_
                  refine lv_iconst (v := 0) hx hb dX0_deal_112 (by decide) ?_
                  refine z_put (ci := 0) (ty := .int) (v := .int 0) (C := RX0) (T := TX0) (N := 8) (ws' := [(a.1, .inr (0, [.ref a.2.1, .ref a.2.2.1, .ref a.2.2.2, .int 4, .int 0, .int (f 25), .int (f 26), .int (f 27)])), (a.2.1, .inl (G.2 1, 9, .inl o)), (a.2.2.1, .inl (G.2 1, 9, .inl t)), (a.2.2.2, .inl (G.2 1, 5, .inl r)), (q, .inr (1, [.long y]))]) hx hb hts (by decide +kernel) tyX0 tyX0_ok nmX0 hown hK hM 0 rfl rfl 4 (by decide) (hts (.fieldLink RX0 31 "ShiftIsles$Board" "taken" "I") (by decide +kernel)) (fun _ h9 => h9) rfl (by decide +kernel) rfl rfl (Nat.le_of_ble_eq_true rfl) dX0_deal_113 rfl (fun H locs hM => ?_)
                  refine lv_aload_n hx hb dX0_deal_116 rfl (lv_at hl 0 rfl) ?_
                  refine lv_iconst (v := (-1)) hx hb dX0_deal_117 (by decide) ?_
                  refine z_put (ci := 0) (ty := .int) (v := .int (-1)) (C := RX0) (T := TX0) (N := 8) (ws' := [(a.1, .inr (0, [.ref a.2.1, .ref a.2.2.1, .ref a.2.2.2, .int 4, .int 0, .int (-1), .int (f 26), .int (f 27)])), (a.2.1, .inl (G.2 1, 9, .inl o)), (a.2.2.1, .inl (G.2 1, 9, .inl t)), (a.2.2.2, .inl (G.2 1, 5, .inl r)), (q, .inr (1, [.long y]))]) hx hb hts (by decide +kernel) tyX0 tyX0_ok nmX0 hown hK hM 0 rfl rfl 5 (by decide) (hts (.fieldLink RX0 34 "ShiftIsles$Board" "locked" "I") (by decide +kernel)) (fun _ h9 => h9) rfl (by decide +kernel) rfl rfl (Nat.le_of_ble_eq_true rfl) dX0_deal_118 rfl (fun H locs hM => ?_)
                  refine lv_aload_n hx hb dX0_deal_121 rfl (lv_at hl 0 rfl) ?_
                  refine lv_iconst (v := (-1)) hx hb dX0_deal_122 (by decide) ?_
                  refine z_put (ci := 0) (ty := .int) (v := .int (-1)) (C := RX0) (T := TX0) (N := 8) (ws' := [(a.1, .inr (0, [.ref a.2.1, .ref a.2.2.1, .ref a.2.2.2, .int 4, .int 0, .int (-1), .int (-1), .int (f 27)])), (a.2.1, .inl (G.2 1, 9, .inl o)), (a.2.2.1, .inl (G.2 1, 9, .inl t)), (a.2.2.2, .inl (G.2 1, 5, .inl r)), (q, .inr (1, [.long y]))]) hx hb hts (by decide +kernel) tyX0 tyX0_ok nmX0 hown hK hM 0 rfl rfl 6 (by decide) (hts (.fieldLink RX0 37 "ShiftIsles$Board" "lastLine" "I") (by decide +kernel)) (fun _ h9 => h9) rfl (by decide +kernel) rfl rfl (Nat.le_of_ble_eq_true rfl) dX0_deal_123 rfl (fun H locs hM => ?_)
                  refine lv_aload_n hx hb dX0_deal_126 rfl (lv_at hl 0 rfl) ?_
                  refine lv_iconst (v := (-1)) hx hb dX0_deal_127 (by decide) ?_
                  refine z_put (ci := 0) (ty := .int) (v := .int (-1)) (C := RX0) (T := TX0) (N := 8) (ws' := [(a.1, .inr (0, [.ref a.2.1, .ref a.2.2.1, .ref a.2.2.2, .int 4, .int 0, .int (-1), .int (-1), .int (-1)])), (a.2.1, .inl (G.2 1, 9, .inl o)), (a.2.2.1, .inl (G.2 1, 9, .inl t)), (a.2.2.2, .inl (G.2 1, 5, .inl r)), (q, .inr (1, [.long y]))]) hx hb hts (by decide +kernel) tyX0 tyX0_ok nmX0 hown hK hM 0 rfl rfl 7 (by decide) (hts (.fieldLink RX0 40 "ShiftIsles$Board" "lastDirection" "I") (by decide +kernel)) (fun _ h9 => h9) rfl (by decide +kernel) rfl rfl (Nat.le_of_ble_eq_true rfl) dX0_deal_128 rfl (fun H locs hM => ?_)
                  have hfin := dl_fold (G := G) (a := a) (f := f) (x := x)
                  simp only [e1, e2, e4] at hfin
                  have ex : zDx f x = y := by rw [zDx_e, e4]
                  exact z_vret hx hb hr hlocks dX0_deal_131 (by rw [ex]; exact zM_sim (zSim_app hfin (zSim_rf (drW q y))) hM) (Nat.le_of_ble_eq_true rfl) (Nat.le_of_ble_eq_true rfl)
                | succ k ih =>
                  intro i y r hik h4 hi4 H locs hM ls hl
                  subst hik
                  refine lv_iload_n hx hb dX0_deal_83 rfl (lv_at hl 2 rfl) ?_
                  refine lv_iconst (v := nI 1) hx hb dX0_deal_84 (by decide) ?_
                  refine lv_icmp_lt (tgt := 106) hx hb dX0_deal_85 (by decide) (fun c_5 => absurd c_5 (nI_nlt (by omega) (by omega))) (fun c_5 => ?_)
                  refine lv_aload_n hx hb dX0_deal_88 rfl (lv_at hl 0 rfl) ?_
                  refine lv_iload_n hx hb dX0_deal_89 rfl (lv_at hl 2 rfl) ?_
                  refine lv_aload_n hx hb dX0_deal_90 rfl (lv_at hl 1 rfl) ?_
                  refine lv_iload_n hx hb dX0_deal_91 rfl (lv_at hl 2 rfl) ?_
                  refine lv_iconst (v := nI 1) hx hb dX0_deal_92 (by decide) ?_
                  refine lv_iadd hx hb dX0_deal_93 ?_
                  rw [nI_add (k + 1) 1]
                  refine z_callV (As := [.int (nI ((k + 1) + 1))]) (rest := [.int (nI (k + 1)), .ref a.1]) (wc := drW q y) (wr := [(a.1, .inr (0, [.ref a.2.1, .ref a.2.2.1, .ref a.2.2.2, .int (f 24), .int (f 23), .int (f 25), .int (f 26), .int (f 27)])), (a.2.1, .inl (G.2 1, 9, .inl o)), (a.2.2.1, .inl (G.2 1, 9, .inl t)), (a.2.2.2, .inl (G.2 1, 5, .inl r))]) (w1 := drW q (zNx y)) (ws' := [(a.1, .inr (0, [.ref a.2.1, .ref a.2.2.1, .ref a.2.2.2, .int (f 24), .int (f 23), .int (f 25), .int (f 26), .int (f 27)])), (a.2.1, .inl (G.2 1, 9, .inl o)), (a.2.2.1, .inl (G.2 1, 9, .inl t)), (a.2.2.2, .inl (G.2 1, 5, .inl r)), (q, .inr (1, [.long (zNx y)]))]) ⟨hx, hb, hml, hown, hts⟩ (c_below l G q y ((k + 1) + 1) (by omega) (by omega)) (cwV 1 hts gX0_deal_X1_below rfl rfl rfl (by decide +kernel) ⟨Nat.le_of_ble_eq_true rfl, Nat.le_of_ble_eq_true rfl⟩) 1 rfl rfl rfl rfl hl.1 rfl (Nat.le_of_ble_eq_true rfl) dX0_deal_94 ⟨Nat.le_of_ble_eq_true rfl, Nat.le_of_ble_eq_true rfl⟩ hK hE hA hM (pm_at 5 [4] [0, 1, 2, 3] rfl rfl rfl (by decide)) ((pm_at 5 [4] [0, 1, 2, 3] rfl rfl rfl (by decide))).symm (fun H locs hM hz => ?_)
                  refine z_callV (As := [.int (nI (k + 1)), .int (nI (zRk y % ((k + 1) + 1)))]) (rest := []) (wc := [(a.1, .inr (0, [.ref a.2.1, .ref a.2.2.1, .ref a.2.2.2, .int (f 24), .int (f 23), .int (f 25), .int (f 26), .int (f 27)])), (a.2.2.2, .inl (G.2 1, 5, .inl r))]) (wr := [(a.2.1, .inl (G.2 1, 9, .inl o)), (a.2.2.1, .inl (G.2 1, 9, .inl t)), (q, .inr (1, [.long (zNx y)]))]) (w1 := [(a.1, .inr (0, [.ref a.2.1, .ref a.2.2.1, .ref a.2.2.2, .int (f 24), .int (f 23), .int (f 25), .int (f 26), .int (f 27)])), (a.2.2.2, .inl (G.2 1, 5, .inl (zEx r (k + 1) (zRk y % ((k + 1) + 1)))))]) (ws' := [(a.1, .inr (0, [.ref a.2.1, .ref a.2.2.1, .ref a.2.2.2, .int (f 24), .int (f 23), .int (f 25), .int (f 26), .int (f 27)])), (a.2.1, .inl (G.2 1, 9, .inl o)), (a.2.2.1, .inl (G.2 1, 9, .inl t)), (a.2.2.2, .inl (G.2 1, 5, .inl (zEx r (k + 1) (zRk y % ((k + 1) + 1))))), (q, .inr (1, [.long (zNx y)]))]) ⟨hx, hb, hml, hown, hts⟩ (c_exch l G a.1 a.2.2.2 (.ref a.2.1) (.ref a.2.2.1) (.int (f 24)) (.int (f 23)) (.int (f 25)) (.int (f 26)) (.int (f 27)) r (k + 1) (zRk y % ((k + 1) + 1)) (by omega) (Nat.lt_of_lt_of_le (Nat.mod_lt _ (by omega)) (by omega))) (cwV 2 hts gX0_deal_X0_exchange rfl rfl rfl (by decide +kernel) ⟨Nat.le_of_ble_eq_true rfl, Nat.le_of_ble_eq_true rfl⟩) 0 rfl rfl rfl rfl hl.1 rfl (Nat.le_of_ble_eq_true rfl) dX0_deal_97 ⟨Nat.le_of_ble_eq_true rfl, Nat.le_of_ble_eq_true rfl⟩ hK hE hA hM (pm_at 5 [0, 3] [1, 2, 4] rfl rfl rfl (by decide)) ((pm_at 5 [0, 3] [1, 2, 4] rfl rfl rfl (by decide))).symm (fun H locs hM hz => ?_)
                  refine lv_iinc (v := nI k) (lv' := [(2, .int (nI k)), (0, .ref a.1), (1, .ref q)]) hx hb dX0_deal_100 hl (k := 2) rfl (pk_m1 k) (by decide) rfl (fun ls hl => ?_)
                  refine lv_goto (tgt := 83) hx hb dX0_deal_103 (by decide) ?_
                  exact ih k (zNx y) (zEx r (k + 1) (zRk y % (k + 1 + 1))) rfl (by rw [h4, zItd_s, zS4_e]) (by omega) _ _ hM _ (lv_sub hl [1, 2, 0] rfl)
              exact lp83 4 4 y r rfl (by rw [zDc_e, e2, e3]) (by decide) _ _ hM _ (lv_sub hl [1, 2, 0] rfl)
            | succ k ih =>
              intro i r hik h3 H locs hM ls hl
              refine lv_iload_n hx hb dX0_deal_61 rfl (lv_at hl 2 rfl) ?_
              refine lv_iconst (v := nI 5) hx hb dX0_deal_62 (by decide) ?_
              refine lv_icmp_ge (tgt := 81) hx hb dX0_deal_63 (by decide) (fun c_6 => absurd c_6 (nI_ge (by omega) (by omega))) (fun c_6 => ?_)
              refine lv_aload_n hx hb dX0_deal_66 rfl (lv_at hl 0 rfl) ?_
              refine z_get (ci := 0) (v := .ref a.2.2.2) (C := RX0) (T := TX0) (N := 8) hx hb hts (by decide +kernel) hown hK hM 0 rfl rfl 2 (by decide) (hts (.fieldLink RX0 18 "ShiftIsles$Board" "order" "[I") (by decide +kernel)) (fun _ h9 => h9) rfl dX0_deal_67 ?_
              refine lv_iload_n hx hb dX0_deal_70 rfl (lv_at hl 2 rfl) ?_
              refine lv_iload_n hx hb dX0_deal_71 rfl (lv_at hl 2 rfl) ?_
              refine lv_iconst (v := nI 1) hx hb dX0_deal_72 (by decide) ?_
              refine lv_iadd hx hb dX0_deal_73 ?_
              rw [nI_add i 1]
              refine z_iast (ws' := [(a.1, .inr (0, [.ref a.2.1, .ref a.2.2.1, .ref a.2.2.2, .int (f 24), .int (f 23), .int (f 25), .int (f 26), .int (f 27)])), (a.2.1, .inl (G.2 1, 9, .inl o)), (a.2.2.1, .inl (G.2 1, 9, .inl t)), (a.2.2.2, .inl (G.2 1, 5, .inl (upd r i (nI (i + 1))))), (q, .inr (1, [.long y]))]) hx hb hK hM 3 rfl (vp_in_nI (by omega) (by decide)) dX0_deal_74 (by rw [nI_clamp (by omega)]; rfl) (fun H locs hM => ?_)
              refine lv_iinc (v := nI (i + 1)) (lv' := [(2, .int (nI (i + 1))), (0, .ref a.1), (1, .ref q)]) hx hb dX0_deal_75 hl (k := 2) rfl (nI_1 i) (by decide) rfl (fun ls hl => ?_)
              refine lv_goto (tgt := 61) hx hb dX0_deal_78 (by decide) ?_
              exact ih (i + 1) (upd r i (nI (i + 1))) (by omega) (by rw [h3, zIt_s, zS3_e]) _ _ hM _ (lv_sub hl [1, 2, 0] rfl)
          exact lp61 5 0 (fun i => f (18 + i)) rfl (zDo3_e f) _ _ hM _ (lv_sub hl [1, 2, 0] rfl)
        | succ k ih =>
          intro i y t hik h2 hi1 H locs hM ls hl
          refine lv_iload_n hx hb dX0_deal_37 rfl (lv_at hl 2 rfl) ?_
          refine lv_iconst (v := nI 5) hx hb dX0_deal_38 (by decide) ?_
          refine lv_icmp_gt (tgt := 59) hx hb dX0_deal_39 (by decide) (fun c_7 => absurd c_7 (nI_nlt (by omega) (by omega))) (fun c_7 => ?_)
          refine lv_aload_n hx hb dX0_deal_42 rfl (lv_at hl 0 rfl) ?_
          refine lv_iload_n hx hb dX0_deal_43 rfl (lv_at hl 2 rfl) ?_
          refine lv_aload_n hx hb dX0_deal_44 rfl (lv_at hl 1 rfl) ?_
          refine lv_bipush (v := nI 9) hx hb dX0_deal_45 (by decide) ?_
          refine z_callV (As := [.int (nI 9)]) (rest := [.int (nI i), .ref a.1]) (wc := drW q y) (wr := [(a.1, .inr (0, [.ref a.2.1, .ref a.2.2.1, .ref a.2.2.2, .int (f 24), .int (f 23), .int (f 25), .int (f 26), .int (f 27)])), (a.2.1, .inl (G.2 1, 9, .inl o)), (a.2.2.1, .inl (G.2 1, 9, .inl t)), (a.2.2.2, .inl (G.2 1, 5, .inl (fun i => f (18 + i))))]) (w1 := drW q (zNx y)) (ws' := [(a.1, .inr (0, [.ref a.2.1, .ref a.2.2.1, .ref a.2.2.2, .int (f 24), .int (f 23), .int (f 25), .int (f 26), .int (f 27)])), (a.2.1, .inl (G.2 1, 9, .inl o)), (a.2.2.1, .inl (G.2 1, 9, .inl t)), (a.2.2.2, .inl (G.2 1, 5, .inl (fun i => f (18 + i)))), (q, .inr (1, [.long (zNx y)]))]) ⟨hx, hb, hml, hown, hts⟩ (c_below l G q y 9 (by omega) (by omega)) (cwV 1 hts gX0_deal_X1_below rfl rfl rfl (by decide +kernel) ⟨Nat.le_of_ble_eq_true rfl, Nat.le_of_ble_eq_true rfl⟩) 1 rfl rfl rfl rfl hl.1 rfl (Nat.le_of_ble_eq_true rfl) dX0_deal_47 ⟨Nat.le_of_ble_eq_true rfl, Nat.le_of_ble_eq_true rfl⟩ hK hE hA hM (pm_at 5 [4] [0, 1, 2, 3] rfl rfl rfl (by decide)) ((pm_at 5 [4] [0, 1, 2, 3] rfl rfl rfl (by decide))).symm (fun H locs hM hz => ?_)
          refine z_callV (As := [.int (nI i), .int (nI (zRk y % 9))]) (rest := []) (wc := [(a.1, .inr (0, [.ref a.2.1, .ref a.2.2.1, .ref a.2.2.2, .int (f 24), .int (f 23), .int (f 25), .int (f 26), .int (f 27)])), (a.2.2.1, .inl (G.2 1, 9, .inl t))]) (wr := [(a.2.1, .inl (G.2 1, 9, .inl o)), (a.2.2.2, .inl (G.2 1, 5, .inl (fun i => f (18 + i)))), (q, .inr (1, [.long (zNx y)]))]) (w1 := [(a.1, .inr (0, [.ref a.2.1, .ref a.2.2.1, .ref a.2.2.2, .int (f 24), .int (f 23), .int (f 25), .int (f 26), .int (f 27)])), (a.2.2.1, .inl (G.2 1, 9, .inl (zHd (nI i) (zRk y % 9) t 9 0)))]) (ws' := [(a.1, .inr (0, [.ref a.2.1, .ref a.2.2.1, .ref a.2.2.2, .int (f 24), .int (f 23), .int (f 25), .int (f 26), .int (f 27)])), (a.2.1, .inl (G.2 1, 9, .inl o)), (a.2.2.1, .inl (G.2 1, 9, .inl (zHd (nI i) (zRk y % 9) t 9 0))), (a.2.2.2, .inl (G.2 1, 5, .inl (fun i => f (18 + i)))), (q, .inr (1, [.long (zNx y)]))]) ⟨hx, hb, hml, hown, hts⟩ (c_hide l G a.1 a.2.2.1 (.ref a.2.1) (.ref a.2.2.2) (.int (f 24)) (.int (f 23)) (.int (f 25)) (.int (f 26)) (.int (f 27)) t (nI i) (zRk y % 9) (by omega)) (cwV 2 hts gX0_deal_X0_hide rfl rfl rfl (by decide +kernel) ⟨Nat.le_of_ble_eq_true rfl, Nat.le_of_ble_eq_true rfl⟩) 0 rfl rfl rfl rfl hl.1 rfl (Nat.le_of_ble_eq_true rfl) dX0_deal_50 ⟨Nat.le_of_ble_eq_true rfl, Nat.le_of_ble_eq_true rfl⟩ hK hE hA hM (pm_at 5 [0, 2] [1, 3, 4] rfl rfl rfl (by decide)) ((pm_at 5 [0, 2] [1, 3, 4] rfl rfl rfl (by decide))).symm (fun H locs hM hz => ?_)
          refine lv_iinc (v := nI (i + 1)) (lv' := [(2, .int (nI (i + 1))), (0, .ref a.1), (1, .ref q)]) hx hb dX0_deal_53 hl (k := 2) rfl (nI_1 i) (by decide) rfl (fun ls hl => ?_)
          refine lv_goto (tgt := 37) hx hb dX0_deal_56 (by decide) ?_
          exact ih (i + 1) (zNx y) (zHd (nI i) (zRk y % 9) t 9 0) (by omega) (by rw [h2, zIt_s, zS2_e]) (by omega) _ _ hM _ (lv_sub hl [1, 2, 0] rfl)
      exact lp37 5 1 y t rfl (by rw [zDb_e, e1]) (by decide) _ _ hM _ (lv_sub hl [1, 2, 0] rfl)
    | succ k ih =>
      intro i y o t hik h1 H locs hM ls hl
      refine lv_iload_n hx hb dX0_deal_2 rfl (lv_at hl 2 rfl) ?_
      refine lv_bipush (v := nI 9) hx hb dX0_deal_3 (by decide) ?_
      refine lv_icmp_ge (tgt := 35) hx hb dX0_deal_5 (by decide) (fun c_8 => absurd c_8 (nI_ge (by omega) (by omega))) (fun c_8 => ?_)
      refine lv_aload_n hx hb dX0_deal_8 rfl (lv_at hl 0 rfl) ?_
      refine z_get (ci := 0) (v := .ref a.2.1) (C := RX0) (T := TX0) (N := 8) hx hb hts (by decide +kernel) hown hK hM 0 rfl rfl 0 (by decide) (hts (.fieldLink RX0 9 "ShiftIsles$Board" "openings" "[I") (by decide +kernel)) (fun _ h9 => h9) rfl dX0_deal_9 ?_
      refine lv_iload_n hx hb dX0_deal_12 rfl (lv_at hl 2 rfl) ?_
      refine lv_iconst (v := nI 1) hx hb dX0_deal_13 (by decide) ?_
      refine lv_aload_n hx hb dX0_deal_14 rfl (lv_at hl 1 rfl) ?_
      refine lv_bipush (v := nI 15) hx hb dX0_deal_15 (by decide) ?_
      refine z_callV (As := [.int (nI 15)]) (rest := [.int (nI 1), .int (nI i), .ref a.2.1]) (wc := drW q y) (wr := [(a.1, .inr (0, [.ref a.2.1, .ref a.2.2.1, .ref a.2.2.2, .int (f 24), .int (f 23), .int (f 25), .int (f 26), .int (f 27)])), (a.2.1, .inl (G.2 1, 9, .inl o)), (a.2.2.1, .inl (G.2 1, 9, .inl t)), (a.2.2.2, .inl (G.2 1, 5, .inl (fun i => f (18 + i))))]) (w1 := drW q (zNx y)) (ws' := [(a.1, .inr (0, [.ref a.2.1, .ref a.2.2.1, .ref a.2.2.2, .int (f 24), .int (f 23), .int (f 25), .int (f 26), .int (f 27)])), (a.2.1, .inl (G.2 1, 9, .inl o)), (a.2.2.1, .inl (G.2 1, 9, .inl t)), (a.2.2.2, .inl (G.2 1, 5, .inl (fun i => f (18 + i)))), (q, .inr (1, [.long (zNx y)]))]) ⟨hx, hb, hml, hown, hts⟩ (c_below l G q y 15 (by omega) (by omega)) (cwV 1 hts gX0_deal_X1_below rfl rfl rfl (by decide +kernel) ⟨Nat.le_of_ble_eq_true rfl, Nat.le_of_ble_eq_true rfl⟩) 1 rfl rfl rfl rfl hl.1 rfl (Nat.le_of_ble_eq_true rfl) dX0_deal_17 ⟨Nat.le_of_ble_eq_true rfl, Nat.le_of_ble_eq_true rfl⟩ hK hE hA hM (pm_at 5 [4] [0, 1, 2, 3] rfl rfl rfl (by decide)) ((pm_at 5 [4] [0, 1, 2, 3] rfl rfl rfl (by decide))).symm (fun H locs hM hz => ?_)
      refine lv_iadd hx hb dX0_deal_20 ?_
      rw [nI_add 1 (zRk y % 15)]
      refine z_iast (ws' := [(a.1, .inr (0, [.ref a.2.1, .ref a.2.2.1, .ref a.2.2.2, .int (f 24), .int (f 23), .int (f 25), .int (f 26), .int (f 27)])), (a.2.1, .inl (G.2 1, 9, .inl (upd o i (nI (1 + (zRk y % 15)))))), (a.2.2.1, .inl (G.2 1, 9, .inl t)), (a.2.2.2, .inl (G.2 1, 5, .inl (fun i => f (18 + i)))), (q, .inr (1, [.long (zNx y)]))]) hx hb hK hM 1 rfl (vp_in_nI (by omega) (by decide)) dX0_deal_21 (by rw [nI_clamp (by omega)]; rfl) (fun H locs hM => ?_)
      refine lv_aload_n hx hb dX0_deal_22 rfl (lv_at hl 0 rfl) ?_
      refine z_get (ci := 0) (v := .ref a.2.2.1) (C := RX0) (T := TX0) (N := 8) hx hb hts (by decide +kernel) hown hK hM 0 rfl rfl 1 (by decide) (hts (.fieldLink RX0 15 "ShiftIsles$Board" "treasures" "[I") (by decide +kernel)) (fun _ h9 => h9) rfl dX0_deal_23 ?_
      refine lv_iload_n hx hb dX0_deal_26 rfl (lv_at hl 2 rfl) ?_
      refine lv_iconst (v := 0) hx hb dX0_deal_27 (by decide) ?_
      refine z_iast (ws' := [(a.1, .inr (0, [.ref a.2.1, .ref a.2.2.1, .ref a.2.2.2, .int (f 24), .int (f 23), .int (f 25), .int (f 26), .int (f 27)])), (a.2.1, .inl (G.2 1, 9, .inl (upd o i (nI (1 + (zRk y % 15)))))), (a.2.2.1, .inl (G.2 1, 9, .inl (upd t i 0))), (a.2.2.2, .inl (G.2 1, 5, .inl (fun i => f (18 + i)))), (q, .inr (1, [.long (zNx y)]))]) hx hb hK hM 2 rfl (vp_in_nI (by omega) (by decide)) dX0_deal_28 (by rw [nI_clamp (by omega)]; rfl) (fun H locs hM => ?_)
      refine lv_iinc (v := nI (i + 1)) (lv' := [(2, .int (nI (i + 1))), (0, .ref a.1), (1, .ref q)]) hx hb dX0_deal_29 hl (k := 2) rfl (nI_1 i) (by decide) rfl (fun ls hl => ?_)
      refine lv_goto (tgt := 2) hx hb dX0_deal_32 (by decide) ?_
      exact ih (i + 1) (zNx y) (upd o i (nI (1 + zRk y % 15))) (upd t i 0) (by omega) (by rw [h1, zIt_s, zS1_e]) _ _ hM _ (lv_sub hl [1, 2, 0] rfl)
  exact lp2 9 0 x (fun i => f i) (fun i => f (9 + i)) rfl (zDa_e f x) _ _ hM _ (lv_sub hl [1, 2, 0] rfl)
