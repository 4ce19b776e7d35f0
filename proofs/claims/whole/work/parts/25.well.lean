/-! BOARDS THAT ARE WELL: the order a permutation of 1 to 5, what is still sought lies on the board -/
theorem zDl_hi (f : Nat → Int32) (x : Int64) {k : Nat} (h : ¬ k < 28) : zDl f x k = -1 := by
  unfold zDl
  rw [if_neg (by omega), if_neg (by omega), if_neg (by omega), if_neg (by omega), if_neg (by omega)]
theorem zDl_full (f g : Nat → Int32) (x : Int64) : zDl f x = zDl g x := by
  funext k
  by_cases h : k < 28
  · exact zDl_eq f g x k h
  · rw [zDl_hi f x h, zDl_hi g x h]
theorem zSg_bs : zSg = zBs := by
  funext i s
  show (zDx (s.2 i) s.1, va_up s.2 i (zDl (s.2 i) s.1)) = (zDx zZ s.1, va_up s.2 i (zDl zZ s.1))
  rw [zDx_eq (s.2 i) zZ s.1, zDl_full (s.2 i) zZ s.1]
theorem zGd_bg (n : Nat) (x : Int64) (b : Nat → Nat → Int32) : zGd n x b = zBg n x b := by
  rw [zGd_e, zBg_e, zSg_bs]
def zDeal (X : Int64 → Int64) (D : Int64 → Nat → Int32) (i : Nat) (s : Int64 × (Nat → Nat → Int32)) : Int64 × (Nat → Nat → Int32) := (X s.1, va_up s.2 i (D s.1))
theorem zDeal_e (X : Int64 → Int64) (D : Int64 → Nat → Int32) (i : Nat) (y : Int64) (b : Nat → Nat → Int32) : zDeal X D i (y, b) = (X y, va_up b i (D y)) := rfl
theorem zDeal_b (X : Int64 → Int64) (D : Int64 → Nat → Int32) : ∀ (k i : Nat) (y : Int64) (b d : Nat → Nat → Int32), (∀ p, p < i → b p = d p) → (zIt (zDeal X D) k i (y, b)).1 = (zIt (zDeal X D) k i (y, d)).1 ∧ ∀ p, p < i + k → (zIt (zDeal X D) k i (y, b)).2 p = (zIt (zDeal X D) k i (y, d)).2 p
  | 0, _, _, _, _, h => ⟨rfl, h⟩
  | k + 1, i, y, b, d, h => by
    rw [zIt_s, zIt_s, zDeal_e, zDeal_e, show i + (k + 1) = i + 1 + k by omega]
    refine zDeal_b X D k (i + 1) (X y) (va_up b i (D y)) (va_up d i (D y)) (fun p hp => ?_)
    by_cases e : p = i
    · subst e
      rw [va_ups, va_ups]
    · rw [va_upn _ _ e, va_upn _ _ e]
      exact h p (by omega)
theorem zBs_deal : zBs = zDeal (zDx zZ) (zDl zZ) := rfl
theorem zBg_b (n : Nat) (x : Int64) (b d : Nat → Nat → Int32) : (zBg n x b).1 = (zBg n x d).1 ∧ ∀ p, p < n → (zBg n x b).2 p = (zBg n x d).2 p := by
  rw [zBg_e, zBg_e, zBs_deal]
  have h := zDeal_b (zDx zZ) (zDl zZ) n 0 x b d (fun p hp => absurd hp (Nat.not_lt_zero p))
  rw [Nat.zero_add] at h
  exact h
def zOd (r : Nat → Int32) : Prop := (∀ i, i < 5 → ∃ k, 1 ≤ k ∧ k ≤ 5 ∧ r i = nI k) ∧ ∀ i j, i < 5 → j < 5 → r i = r j → i = j
def zBx (f : Nat → Int32) : Prop := zBw f ∧ zOd (fun i => f (18 + i)) ∧ ∀ c, c ≤ 5 → f 23 = nI c → ∀ i, c ≤ i → i < 5 → ∃ n, n < 9 ∧ f (9 + n) = f (18 + i)
theorem zFd_yes {t : Nat → Int32} {v : Int32} : ∀ (k i : Nat), i + k ≤ 1000 → (∃ j, i ≤ j ∧ j < i + k ∧ t j = v) → ¬ zFd t v k i = -1
  | 0, i, _, ⟨j, h1, h2, _⟩ => by omega
  | k + 1, i, hk, ⟨j, h1, h2, h3⟩ => by
    rw [zFd]
    by_cases e : t i = v
    · rw [if_pos e]
      exact nI_m1 (by omega)
    · rw [if_neg e]
      refine zFd_yes k (i + 1) (by omega) ⟨j, ?_, by omega, h3⟩
      by_cases e2 : j = i
      · exact absurd (e2 ▸ h3) e
      · omega
theorem zBx_sp {f : Nat → Int32} (w : zBx f) (h5 : ¬ f 23 = 5) : ¬ zSp f = -1 := by
  obtain ⟨c, hc, ec⟩ := w.1.1
  have hc5 : ¬ c = 5 := fun q => h5 (by rw [ec, q]; rfl)
  obtain ⟨n, hn, en⟩ := w.2.2 c hc ec c (Nat.le_refl c) (by omega)
  unfold zSp
  refine zFd_yes 9 0 (by decide) ⟨n, Nat.zero_le n, by omega, ?_⟩
  show f (9 + n) = zSo f
  rw [zSo_e hc ec, if_neg hc5]
  exact en
theorem zOd_c {r u : Nat → Int32} (h : ∀ i, i < 5 → r i = u i) (w : zOd r) : zOd u :=
  ⟨fun i hi => by rw [← h i hi]; exact w.1 i hi, fun i j hi hj e => w.2 i j hi hj (by rw [h i hi, h j hj]; exact e)⟩
theorem zBx_set {f g : Nat → Int32} (w : zBx f) (h23 : g 23 = f 23) (hw : zBw g) (ht : ∀ i, i < 9 → ∃ j, j < 9 ∧ g (9 + j) = f (9 + i)) (ho : ∀ i, i < 5 → g (18 + i) = f (18 + i)) : zBx g := by
  refine ⟨hw, zOd_c (fun i hi => (ho i hi).symm) w.2.1, fun c hc ec i hci hi => ?_⟩
  obtain ⟨n, hn, en⟩ := w.2.2 c hc (h23 ▸ ec) i hci hi
  obtain ⟨j, hj, ej⟩ := ht n hn
  exact ⟨j, hj, by rw [ej, en, ho i hi]⟩
theorem zBx_25 {f : Nat → Int32} (w : zBx f) (v : Int32) : zBx (upd f 25 v) :=
  zBx_set w (pk_un (by decide)) (zBw_25 w.1 v) (fun i hi => ⟨i, hi, pk_un (by omega)⟩) (fun i hi => pk_un (by omega))
theorem zBx_24 {f : Nat → Int32} (w : zBx f) {k : Nat} (hk : k < 9) : zBx (upd f 24 (nI k)) :=
  zBx_set w (pk_un (by decide)) (zBw_24 w.1 hk) (fun i hi => ⟨i, hi, pk_un (by omega)⟩) (fun i hi => pk_un (by omega))
def zSur (t u : Nat → Int32) : Prop := ∀ i, i < 9 → ∃ j, j < 9 ∧ u j = t i
theorem zSur_cy {a c : Nat} (hc : 0 < c) (hac : a + c + c < 9) (t : Nat → Int32) : zSur t (zCy a c t) := by
  intro i hi
  unfold zCy
  by_cases e0 : i = a + c + c
  · subst e0
    exact ⟨a, by omega, pk_us⟩
  by_cases e1 : i = a
  · subst e1
    refine ⟨i + c, by omega, ?_⟩
    rw [pk_un (by omega), pk_us, pk_un (by omega)]
  by_cases e2 : i = a + c
  · subst e2
    refine ⟨a + c + c, by omega, ?_⟩
    rw [pk_un (by omega), pk_un (by omega), pk_us]
  refine ⟨i, hi, ?_⟩
  rw [pk_un e1, pk_un e2, pk_un e0]
theorem zSur_cyN {a c : Nat} (hc : 0 < c) (hac : a + c + c < 9) : ∀ (n : Nat) (t : Nat → Int32), zSur t (zCyN a c n t)
  | 0, _ => fun i hi => ⟨i, hi, rfl⟩
  | n + 1, t => fun i hi => by
    obtain ⟨j, hj, ej⟩ := zSur_cy hc hac t i hi
    obtain ⟨k, hk, ek⟩ := zSur_cyN hc hac n (zCy a c t) j hj
    exact ⟨k, hk, ek.trans ej⟩
theorem zMb_pos (n : Nat) : 0 < zMb n := by
  unfold zMb
  split <;> decide
theorem zMv_9 (f : Nat → Int32) (n : Nat) (d : Int32) {i : Nat} (hi : i < 9) : zMv f n d (9 + i) = zCyN (zMa n) (zMb n) (zMh d) (fun i => f (9 + i)) i := by
  show (if 9 + i < 9 then _ else _) = _
  rw [if_neg (by omega), if_pos (by omega), show 9 + i - 9 = i by omega]
theorem zMv_18 (f : Nat → Int32) (n : Nat) (d : Int32) {i : Nat} (hi : i < 5) : zMv f n d (18 + i) = f (18 + i) := by
  show (if 18 + i < 9 then _ else _) = _
  rw [if_neg (by omega), if_neg (by omega), if_neg (by omega), if_neg (by omega), if_neg (by omega)]
theorem zBx_mv {f : Nat → Int32} (w : zBx f) {n : Nat} (hn : n < 6) (d : Int32) : zBx (zMv f n d) := by
  refine zBx_set w rfl (zBw_mv w.1 hn d) (fun i hi => ?_) (fun i hi => zMv_18 f n d hi)
  obtain ⟨j, hj, ej⟩ := zSur_cyN (zMb_pos n) (zMab hn) (zMh d) (fun i => f (9 + i)) i hi
  exact ⟨j, hj, by rw [zMv_9 f n d hj]; exact ej⟩
theorem zBx_ld {f : Nat → Int32} (w : zBx f) {k : Nat} (hk : k < 9) : zBx (zLd f k) := by
  by_cases h : f (9 + k) = 0 ∨ ¬ f (9 + k) = zSo f
  · unfold zLd
    rw [if_pos h]
    exact zBx_24 w hk
  · refine ⟨zBw_ld w.1 hk, ?_, ?_⟩
    · refine zOd_c (fun i hi => ?_) w.2.1
      unfold zLd
      rw [if_neg h, pk_un (by omega), pk_un (by omega), pk_un (by omega)]
    · intro c hc ec i hci hi
      have h2 : f (9 + k) = zSo f := Decidable.not_not.mp (fun q => h (Or.inr q))
      obtain ⟨j, hj, ej⟩ := w.1.2.2.1 k hk
      have h3 : ¬ zSo f = -1 := by
        rw [← h2, ej]
        exact nI_m1 (by omega)
      obtain ⟨a, ha, ea⟩ := zSo_5 w.1 h3
      have eo : zSo f = f (18 + a) := by rw [zSo_e (by omega) ea, if_neg (by omega)]
      unfold zLd at ec ⊢
      rw [if_neg h] at ec ⊢
      rw [pk_us, ea, nI_1 a] at ec
      have hca : c = a + 1 := ((nI_eq (by omega) (by omega)).mp ec).symm
      obtain ⟨n, hn, en⟩ := w.2.2 a (by omega) ea i (by omega) hi
      have hnk : ¬ n = k := by
        rintro rfl
        have q : f (18 + i) = f (18 + a) := by rw [← en, h2, eo]
        have := w.2.1.2 i a hi ha q
        omega
      refine ⟨n, hn, ?_⟩
      rw [pk_un (by omega), pk_un (by omega), pk_un (by omega), pk_un (by omega), pk_un (by omega), pk_un (by omega)]
      exact en
/-! what is dealt is well -/
theorem zOd_ex {r : Nat → Int32} (w : zOd r) {i j : Nat} (hi : i < 5) (hj : j < 5) : zOd (zEx r i j) := by
  have key : ∀ k, k < 5 → ∃ q, q < 5 ∧ zEx r i j k = r q ∧ (k = i → q = j) ∧ (k = j → q = i) ∧ (¬ k = i → ¬ k = j → q = k) := by
    intro k hk
    unfold zEx
    by_cases e2 : k = j
    · subst e2
      exact ⟨i, hi, pk_us, fun q => q.symm, fun _ => rfl, fun _ q => absurd rfl q⟩
    · rw [pk_un e2]
      by_cases e1 : k = i
      · subst e1
        exact ⟨j, hj, pk_us, fun _ => rfl, fun q => absurd q e2, fun q => absurd rfl q⟩
      · rw [pk_un e1]
        exact ⟨k, hk, rfl, fun q => absurd q e1, fun q => absurd q e2, fun _ _ => rfl⟩
  refine ⟨fun k hk => ?_, fun k l hk hl e => ?_⟩
  · obtain ⟨q, hq, eq, _⟩ := key k hk
    rw [eq]
    exact w.1 q hq
  · obtain ⟨q, hq, eq, q1, q2, q3⟩ := key k hk
    obtain ⟨u, hu, eu, u1, u2, u3⟩ := key l hl
    have hqu := w.2 q u hq hu (by rw [← eq, ← eu]; exact e)
    by_cases a1 : k = i
    · by_cases b1 : l = i
      · omega
      · by_cases b2 : l = j
        · have := q1 a1
          have := u2 b2
          omega
        · have := q1 a1
          have := u3 b1 b2
          omega
    · by_cases a2 : k = j
      · by_cases b1 : l = i
        · have := q2 a2
          have := u1 b1
          omega
        · by_cases b2 : l = j
          · omega
          · have := q2 a2
            have := u3 b1 b2
            omega
      · have h9 := q3 a1 a2
        by_cases b1 : l = i
        · have := u1 b1
          omega
        · by_cases b2 : l = j
          · have := u2 b2
            omega
          · have := u3 b1 b2
            omega
theorem zDo3_at {f : Nat → Int32} : ∀ i, i < 5 → zDo3 f i = nI (i + 1) := by
  intro i hi
  have h5 : i = 0 ∨ i = 1 ∨ i = 2 ∨ i = 3 ∨ i = 4 := by omega
  rcases h5 with rfl | rfl | rfl | rfl | rfl <;> rfl
theorem zDo3_od (f : Nat → Int32) : zOd (zDo3 f) :=
  ⟨fun i hi => ⟨i + 1, by omega, by omega, zDo3_at i hi⟩, fun i j hi hj e => by
    rw [zDo3_at i hi, zDo3_at j hj] at e
    have := (nI_eq (by omega) (by omega)).mp e
    omega⟩
theorem zDc_od (x : Int64) : zOd (zDc zZ x).2 := by
  rw [zDc_e]
  refine zItd_inv (I := fun s : Int64 × (Nat → Int32) => zOd s.2) 4 _ (fun j s h1 h2 hs => ?_) (zDo3_od zZ)
  have hm : zRk s.1 % (j + 1) < 5 := Nat.lt_of_lt_of_le (Nat.mod_lt _ (by omega)) (by omega)
  exact zOd_ex hs (by omega) hm
theorem zHd_f {v : Int32} {a : Nat} {u : Nat → Int32} : ∀ (k i : Nat), (∃ j, i ≤ j ∧ j < i + k ∧ u ((a + j) % 9) = 0) → ∃ j, j < 9 ∧ u j = 0 ∧ zHd v a u k i = upd u j v
  | 0, i, ⟨j, h1, h2, _⟩ => by omega
  | k + 1, i, ⟨j, h1, h2, h3⟩ => by
    rw [zHd]
    by_cases e : u ((a + i) % 9) = 0
    · rw [if_pos e]
      exact ⟨(a + i) % 9, Nat.mod_lt _ (by decide), e, rfl⟩
    · rw [if_neg e]
      refine zHd_f k (i + 1) ⟨j, ?_, by omega, h3⟩
      by_cases e2 : j = i
      · exact absurd (e2 ▸ h3) e
      · omega
theorem nzc_ex {t : Nat → Int32} (a : Nat) (h : nzc t < 9) : ∃ j, 0 ≤ j ∧ j < 0 + 9 ∧ t ((a + j) % 9) = 0 := by
  refine Classical.byContradiction (fun q => ?_)
  have h9 : nzc t = 9 := nzc_all (ring_all (a := a) (fun j hj e => q ⟨j, Nat.zero_le j, by omega, e⟩))
  omega
def zPlc (i : Nat) (t : Nat → Int32) : Prop := nzc t < i ∧ ∀ k, 1 ≤ k → k < i → ∃ n, n < 9 ∧ t n = nI k
theorem zPlc_s {i a : Nat} {t : Nat → Int32} (h1 : 1 ≤ i) (h5 : i ≤ 5) (h : zPlc i t) : zPlc (i + 1) (zHd (nI i) a t 9 0) := by
  obtain ⟨j, hj, ej, eh⟩ := zHd_f (v := nI i) (a := a) (u := t) 9 0 (nzc_ex a (by have := h.1; omega))
  rw [eh]
  refine ⟨Nat.lt_of_le_of_lt (nzc_upd t hj (nI i)) (by have := h.1; omega), fun k hk1 hki => ?_⟩
  by_cases e : k = i
  · subst e
    exact ⟨j, hj, pk_us⟩
  · obtain ⟨n, hn, en⟩ := h.2 k hk1 (by omega)
    refine ⟨n, hn, ?_⟩
    rw [pk_un]
    · exact en
    · rintro rfl
      rw [ej] at en
      exact nI_nz (by omega) (by omega) en.symm
theorem zIt_invn {α : Type} {F : Nat → α → α} {I : Nat → α → Prop} : ∀ (k i : Nat) (s : α), (∀ j s, i ≤ j → j < i + k → I j s → I (j + 1) (F j s)) → I i s → I (i + k) (zIt F k i s)
  | 0, _, _, _, h => h
  | k + 1, i, s, hs, h => by
    rw [zIt_s, show i + (k + 1) = i + 1 + k by omega]
    exact zIt_invn k (i + 1) (F i s) (fun j s h1 h2 => hs j s (by omega) (by omega)) (hs i s (Nat.le_refl i) (by omega) h)
theorem zDa_z (x : Int64) : (zDa zZ x).2.2 = zZ := by
  rw [zDa_e]
  exact zIt_inv (I := fun s : Int64 × (Nat → Int32) × (Nat → Int32) => s.2.2 = zZ) 9 0 _ (fun j s _ _ hs => by
    show upd s.2.2 j 0 = zZ
    rw [hs, upd_zZ]) rfl
theorem zDb_pl (x : Int64) : zPlc 6 (zDb zZ x).2 := by
  rw [zDb_e, zDa_z]
  refine zIt_invn (I := fun i (s : Int64 × (Nat → Int32)) => zPlc i s.2) 5 1 _ (fun j s h1 h2 hs => ?_) ⟨by rw [nzc_z]; decide, fun k h1 h2 => by omega⟩
  exact zPlc_s h1 (by omega) hs
theorem zDl_9 (x : Int64) {i : Nat} (hi : i < 9) : zDl zZ x (9 + i) = (zDb zZ x).2 i := by
  unfold zDl
  rw [if_neg (by omega), if_pos (by omega), show 9 + i - 9 = i by omega]
theorem zDl_18 (x : Int64) {i : Nat} (hi : i < 5) : zDl zZ x (18 + i) = (zDc zZ x).2 i := by
  unfold zDl
  rw [if_neg (by omega), if_neg (by omega), if_pos (by omega), show 18 + i - 18 = i by omega]
theorem zBx_dl (x : Int64) : zBx (zDl zZ x) := by
  refine ⟨zBw_dl x, zOd_c (fun i hi => (zDl_18 x hi).symm) (zDc_od x), fun c hc ec i hci hi => ?_⟩
  obtain ⟨k, hk1, hk5, ek⟩ := (zDc_od x).1 i hi
  obtain ⟨n, hn, en⟩ := (zDb_pl x).2 k hk1 (by omega)
  exact ⟨n, hn, by rw [zDl_9 x hn, zDl_18 x hi, en, ek]⟩
theorem zDl_23 (x : Int64) : zDl zZ x 23 = 0 := rfl
/-! STATES THAT ARE WELL -/
def zGs (h : Nat → Int32) (b : Nat → Nat → Int32) (P t S e : Nat) : Prop := zWf h b P t S ∧ (∀ p, p < P → zBx (b p)) ∧ (∃ g, 1 ≤ g ∧ g ≤ 5 ∧ h 7 = nI g) ∧ (∃ L, 1 ≤ L ∧ L ≤ 200 ∧ h 8 = nI L) ∧ h 3 = nI e ∧ e ≤ 200 ∧ (h 4 = 0 → e < 200 ∧ ∀ p, p < P → ¬ b p 23 = 5)
def zX (h : Nat → Int32) (b : Nat → Nat → Int32) : Prop := ∃ P t S e, zGs h b P t S e
theorem zRu_4 {h : Nat → Int32} (q : zRu h = true) : h 4 = 0 := by
  simp only [zRu, Bool.and_eq_true, decide_eq_true_eq] at q
  exact q.2
theorem zGs_sp {h : Nat → Int32} {b : Nat → Nat → Int32} {P t S e : Nat} (w : zGs h b P t S e) (hr : zRu h = true) : ¬ zSp (b t) = -1 := by
  have hP := zRu_P w.1.1.1 w.1.1.2.1 hr
  have ht := (w.1.2.1 hP).1
  exact zBx_sp (w.2.1 t ht) ((w.2.2.2.2.2.2 (zRu_4 hr)).2 t ht)
/-! there is always a shift -/
theorem zSix (x y : Int32) : ∃ n, n < 3 ∧ ¬ nI n = x ∧ ¬ nI n = y := by
  by_cases a0 : nI 0 = x
  · by_cases b1 : nI 1 = y
    · exact ⟨2, by decide, fun q => absurd (a0.trans q.symm) (by decide), fun q => absurd (b1.trans q.symm) (by decide)⟩
    · exact ⟨1, by decide, fun q => absurd (a0.trans q.symm) (by decide), b1⟩
  · by_cases b0 : nI 0 = y
    · by_cases a1 : nI 1 = x
      · exact ⟨2, by decide, fun q => absurd (a1.trans q.symm) (by decide), fun q => absurd (b0.trans q.symm) (by decide)⟩
      · exact ⟨1, by decide, a1, fun q => absurd (b0.trans q.symm) (by decide)⟩
    · exact ⟨0, by decide, a0, b0⟩
theorem zAl_ex (f : Nat → Int32) (d : Int32) : ∃ n, n < 6 ∧ zAl f (nI n) d = true := by
  obtain ⟨n, hn, h1, h2⟩ := zSix (f 25) (f 26)
  refine ⟨n, by omega, ?_⟩
  unfold zAl
  rw [decide_eq_false h1, decide_eq_false h2]
  rfl
theorem zMs_ex {h : Nat → Int32} {b : Nat → Nat → Int32} {P t S : Nat} (w : zWf h b P t S) (hr : zRu h = true) (h2 : h 2 = 0) : ∃ k n, k < P ∧ n < 6 ∧ zMs h b k (nI n) 0 = true := by
  have hP := zRu_P w.1.1 w.1.2.1 hr
  obtain ⟨ht, hP2⟩ := w.2.1 hP
  have hk : ∃ k, k < P ∧ ¬ k = t := by
    by_cases e : t = 0
    · exact ⟨1, by omega, by omega⟩
    · exact ⟨0, by omega, fun q => e q.symm⟩
  obtain ⟨k, hkP, hkt⟩ := hk
  obtain ⟨n, hn, hal⟩ := zAl_ex (b k) 0
  refine ⟨k, n, hkP, hn, ?_⟩
  have hP4 := w.1.2.1
  have e1 : zHp h (nI k) = true := (zHp_lt w.1.1 hP4 (by omega)).mpr hkP
  have e2 : ¬ nI k = h 1 := by
    rw [w.1.2.2.1]
    intro q
    exact hkt ((nI_eq (by omega) (by omega)).mp q)
  unfold zMs
  rw [hr, e1, decide_eq_true h2, decide_eq_false e2, zLi_nI hn, hal]
  rfl
def zSel (u : zRU) : Prop := ¬ u.1 = -1
def zFr (u : zRU) : Prop := u.1 = -1 → u.2.2.2.1 = 100
theorem zLf_lt {f : Nat → Int32} (S : Nat) (hw : zBw f) : zLf f S < 100 := by
  obtain ⟨t, c, ht, hc, _, e2⟩ := zLv_v S hw
  rw [e2]
  exact nI_lt (b := 100) (by omega) (by decide)
theorem zCo_fr {h : Nat → Int32} {b : Nat → Nat → Int32} {S k n : Nat} {w : Int32} {u : zRU} (hk9 : k < 1000) (hu : zFr u) : zFr (zCo h b S k n w u) := by
  unfold zCo
  split
  · split
    · exact fun q => absurd q (nI_m1 (by omega))
    · exact hu
  · exact hu
theorem zCo_sel {h : Nat → Int32} {b : Nat → Nat → Int32} {S k n : Nat} {w : Int32} {u : zRU} (hk9 : k < 1000) (hu : zSel u) : zSel (zCo h b S k n w u) := by
  unfold zCo
  split
  · split
    · exact nI_m1 (by omega)
    · exact hu
  · exact hu
theorem zCo_new {h : Nat → Int32} {b : Nat → Nat → Int32} {S k n : Nat} {w : Int32} {u : zRU} (hk9 : k < 1000) (hw : zBw (zMv (b k) n w)) (hu : zFr u) (hm : zMs h b k (nI n) w = true) : zSel (zCo h b S k n w u) := by
  unfold zCo
  rw [if_pos hm]
  by_cases e : u.1 = -1
  · rw [if_pos (by rw [hu e]; exact zLf_lt S hw)]
    exact nI_m1 (by omega)
  · split
    · exact nI_m1 (by omega)
    · exact e
theorem zIt_hit {α : Type} {F : Nat → α → α} {I J : α → Prop} (n0 : Nat) : ∀ (k i : Nat) (s : α), i ≤ n0 → n0 < i + k → (∀ j s, i ≤ j → j < i + k → I s → I (F j s)) → (∀ j s, i ≤ j → j < i + k → J s → J (F j s)) → (∀ s, I s → J (F n0 s)) → I s → J (zIt F k i s)
  | 0, i, s, h1, h2, _, _, _, _ => by omega
  | k + 1, i, s, h1, h2, hI, hJ, hn, h => by
    rw [zIt_s]
    by_cases e : i = n0
    · subst e
      exact zIt_inv k (i + 1) _ (fun j s a c => hJ j s (by omega) (by omega)) (hn s h)
    · exact zIt_hit n0 k (i + 1) _ (by omega) (by omega) (fun j s a c => hI j s (by omega) (by omega)) (fun j s a c => hJ j s (by omega) (by omega)) hn (hI i s (Nat.le_refl i) (by omega) h)
theorem zCs_sel {h : Nat → Int32} {b : Nat → Nat → Int32} {S P k0 n0 : Nat} {sf : Nat → Int32} (hP4 : P ≤ 4) (hwb : ∀ q, q < P → zBw (b q)) (hk : k0 < P) (hn : n0 < 6) (hm : zMs h b k0 (nI n0) 0 = true) : ¬ (zCs h b S P sf).1 = -1 := by
  have c1f : ∀ k c u, k < 1000 → zFr u → zFr (zC1 h b S k c u) := fun k c u hk9 hu => by
    rw [zC1_e]
    exact zCo_fr hk9 (zCo_fr hk9 hu)
  have c1s : ∀ k c u, k < 1000 → zSel u → zSel (zC1 h b S k c u) := fun k c u hk9 hu => by
    rw [zC1_e]
    exact zCo_sel hk9 (zCo_sel hk9 hu)
  have c2f : ∀ k u, k < 1000 → zFr u → zFr (zC2 h b S k u) := fun k u hk9 hu => by
    rw [zC2_e]
    exact zIt_inv 6 0 u (fun j s _ _ hs => c1f k j s hk9 hs) hu
  have c2s : ∀ k u, k < 1000 → zSel u → zSel (zC2 h b S k u) := fun k u hk9 hu => by
    rw [zC2_e]
    exact zIt_inv 6 0 u (fun j s _ _ hs => c1s k j s hk9 hs) hu
  rw [zCs_e]
  refine zIt_hit (I := zFr) (J := zSel) k0 P 0 _ (Nat.zero_le _) (by omega) (fun j s _ h2 hs => c2f j s (by omega) hs) (fun j s _ h2 hs => c2s j s (by omega) hs) (fun s hs => ?_) (fun _ => rfl)
  rw [zC2_e]
  refine zIt_hit (I := zFr) (J := zSel) n0 6 0 s (Nat.zero_le _) (by omega) (fun j s _ h2 hs => c1f k0 j s (by omega) hs) (fun j s _ h2 hs => c1s k0 j s (by omega) hs) (fun s hs => ?_) hs
  rw [zC1_e]
  exact zCo_sel (by omega) (zCo_new (by omega) (zBw_mv (hwb k0 hk) hn 0) hs hm)
theorem zWf_sel {h : Nat → Int32} {b : Nat → Nat → Int32} {P t S : Nat} (sf : Nat → Int32) (w : zWf h b P t S) (hr : zRu h = true) : h 2 = 0 → ¬ (zCs h b S P sf).1 = -1 := by
  intro h2
  obtain ⟨k, n, hk, hn, hm⟩ := zMs_ex w hr h2
  exact zCs_sel w.1.2.1 w.2.2 hk hn hm
/-! what the acts make of a state that is well -/
theorem zWf_hS {h g : Nat → Int32} {b : Nat → Nat → Int32} {P t S t' S' : Nat} (w : zWf h b P t S) (e0 : g 0 = h 0) (e1 : g 1 = nI t') (ht : 0 < P → t' < P) (ht4 : t' < 4) (e6 : g 6 = nI S') (hS : S' ≤ 9) (e2 : g 2 = 0 ∨ g 2 = 1) (e4 : g 4 = 0 ∨ g 4 = 1) : zWf g b P t' S' := by
  obtain ⟨⟨h0, hP4, h1, _, h6, hS9, _, _⟩, hpt, hwb⟩ := w
  exact ⟨⟨e0.trans h0, hP4, e1, ht4, e6, hS, e2, e4⟩, fun q => ⟨ht q, (hpt q).2⟩, hwb⟩
theorem zGs_b {h : Nat → Int32} {b : Nat → Nat → Int32} {P t S e q : Nat} {f : Nat → Int32} (w : zGs h b P t S e) (hf : zBx f) (h5 : h 4 = 0 → ¬ f 23 = 5) : zGs h (va_up b q f) P t S e := by
  refine ⟨zWf_b w.1 hf.1, fun p hp => ?_, w.2.2.1, w.2.2.2.1, w.2.2.2.2.1, w.2.2.2.2.2.1, fun h4 => ⟨(w.2.2.2.2.2.2 h4).1, fun p hp => ?_⟩⟩
  · by_cases e : p = q
    · subst e
      rw [va_ups]
      exact hf
    · rw [va_upn _ _ e]
      exact w.2.1 p hp
  · by_cases e : p = q
    · subst e
      rw [va_ups]
      exact h5 h4
    · rw [va_upn _ _ e]
      exact (w.2.2.2.2.2.2 h4).2 p hp
theorem zMv_23 (f : Nat → Int32) (n : Nat) (d : Int32) : zMv f n d 23 = f 23 := rfl
theorem zGs_sh {h : Nat → Int32} {b : Nat → Nat → Int32} {P t S e o n : Nat} {d : Int32} (w : zGs h b P t S e) (ho : o < P) (hn : n < 6) : zGs (zShH h) (va_up b o (zMv (b o) n d)) P t S e := by
  have w2 : zGs (zShH h) b P t S e := by
    refine ⟨zWf_h w.1 (pk_un (by decide)) (pk_un (by decide)) (pk_un (by decide)) (Or.inr pk_us) (by rw [zShH, pk_un (by decide)]; exact w.1.1.2.2.2.2.2.2.2), w.2.1, ?_, ?_, ?_, w.2.2.2.2.2.1, ?_⟩
    · rw [zShH, pk_un (by decide)]; exact w.2.2.1
    · rw [zShH, pk_un (by decide)]; exact w.2.2.2.1
    · rw [zShH, pk_un (by decide)]; exact w.2.2.2.2.1
    · rw [zShH, pk_un (by decide)]; exact w.2.2.2.2.2.2
  refine zGs_b w2 (zBx_mv (w.2.1 o ho) hn d) (fun h4 => ?_)
  rw [zMv_23]
  rw [zShH, pk_un (by decide)] at h4
  exact (w.2.2.2.2.2.2 h4).2 o ho
/-- the end of a turn, over boards of which that of the turn's player may have all treasures -/
theorem zGs_et {h : Nat → Int32} {b c : Nat → Nat → Int32} {P t S e : Nat} (w : zGs h b P t S e) (hP : 0 < P) (h4 : h 4 = 0) (hx : ∀ p, p < P → zBx (c p)) (h5 : ∀ p, p < P → ¬ p = t → ¬ c p 23 = 5) : ∃ t', zGs (zEtH h c t P) (zEtB h c t P) P t' S (e + 1) := by
  obtain ⟨⟨⟨hh0, hP4, hh1, ht4, hh6, hS9, hh2, hh4⟩, hpt, hwb⟩, hbx, ⟨g, hg1, hg5, hg⟩, ⟨L, hL1, hL, hLe⟩, he, he200, hov⟩ := w
  have htP := (hpt hP).1
  have heL := (hov h4).1
  have n1 : h 3 + 1 = nI (e + 1) := by rw [he]; exact nI_1 e
  have wc : zWf h c P t S := ⟨⟨hh0, hP4, hh1, ht4, hh6, hS9, hh2, hh4⟩, hpt, fun p hp => (hx p hp).1⟩
  unfold zEtH zEtB
  by_cases q1 : c t 23 < h 7
  · rw [if_pos q1, if_pos q1]
    have hc5 : ∀ p, p < P → ¬ c p 23 = 5 := by
      intro p hp
      by_cases e : p = t
      · subst e
        intro q
        rw [q, hg] at q1
        exact nI_nlt (a := 5) (b := g) hg5 (by decide) q1
      · exact h5 p hp e
    by_cases q2 : h 3 + 1 < h 8
    · rw [if_pos q2, if_pos q2]
      have hlt : e + 1 < L := by
        rw [n1, hLe] at q2
        exact Nat.not_le.mp (fun q => nI_nlt q (by omega) q2)
      have hN := zNt_ltP (t := t) (P := P) htP
      refine ⟨zNt t P, ?_⟩
      refine ⟨zWf_b (zWf_hS wc ?_ pk_us (fun _ => hN) (by omega) ?_ hS9 (Or.inl ?_) ?_) (zBw_25 (hx _ hN).1 _), fun p hp => ?_, ?_, ?_, ?_, by omega, fun _ => ⟨by omega, fun p hp => ?_⟩⟩
      · rw [pk_un (by decide), pk_un (by decide), pk_un (by decide)]
      · rw [pk_un (by decide), pk_un (by decide), pk_un (by decide)]; exact hh6
      · rw [pk_un (by decide), pk_un (by decide), pk_us]
      · rw [pk_un (by decide), pk_un (by decide), pk_un (by decide)]; exact hh4
      · by_cases e : p = zNt t P
        · subst e
          rw [va_ups]
          exact zBx_25 (hx _ hN) _
        · rw [va_upn _ _ e]
          exact hx p hp
      · rw [pk_un (by decide), pk_un (by decide), pk_un (by decide)]; exact ⟨g, hg1, hg5, hg⟩
      · rw [pk_un (by decide), pk_un (by decide), pk_un (by decide)]; exact ⟨L, hL1, hL, hLe⟩
      · rw [pk_un (by decide), pk_us, n1]
      · by_cases e : p = zNt t P
        · subst e
          rw [va_ups, pk_un (by decide)]
          exact hc5 _ hN
        · rw [va_upn _ _ e]
          exact hc5 p hp
    · rw [if_neg q2, if_neg q2]
      refine ⟨t, zWf_hS wc ?_ ?_ (fun _ => htP) ht4 ?_ hS9 (Or.inl ?_) (Or.inr pk_us), hx, ?_, ?_, ?_, by omega, fun q => absurd (pk_us.symm.trans q) (by decide)⟩
      · rw [pk_un (by decide), pk_un (by decide), pk_un (by decide)]
      · rw [pk_un (by decide), pk_un (by decide), pk_un (by decide)]; exact hh1
      · rw [pk_un (by decide), pk_un (by decide), pk_un (by decide)]; exact hh6
      · rw [pk_un (by decide), pk_un (by decide), pk_us]
      · rw [pk_un (by decide), pk_un (by decide), pk_un (by decide)]; exact ⟨g, hg1, hg5, hg⟩
      · rw [pk_un (by decide), pk_un (by decide), pk_un (by decide)]; exact ⟨L, hL1, hL, hLe⟩
      · rw [pk_un (by decide), pk_us, n1]
  · rw [if_neg q1, if_neg q1]
    refine ⟨t, zWf_hS wc ?_ ?_ (fun _ => htP) ht4 ?_ hS9 (Or.inl ?_) (Or.inr ?_), hx, ?_, ?_, ?_, by omega, fun q => ?_⟩
    · rw [pk_un (by decide), pk_un (by decide), pk_un (by decide), pk_un (by decide)]
    · rw [pk_un (by decide), pk_un (by decide), pk_un (by decide), pk_un (by decide)]; exact hh1
    · rw [pk_un (by decide), pk_un (by decide), pk_un (by decide), pk_un (by decide)]; exact hh6
    · rw [pk_un (by decide), pk_un (by decide), pk_un (by decide), pk_us]
    · rw [pk_un (by decide), pk_us]
    · rw [pk_un (by decide), pk_un (by decide), pk_un (by decide), pk_un (by decide)]; exact ⟨g, hg1, hg5, hg⟩
    · rw [pk_un (by decide), pk_un (by decide), pk_un (by decide), pk_un (by decide)]; exact ⟨L, hL1, hL, hLe⟩
    · rw [pk_un (by decide), pk_un (by decide), pk_us, n1]
    · rw [pk_un (by decide), pk_us] at q
      exact absurd q (by decide)
theorem zGs_go {h : Nat → Int32} {b : Nat → Nat → Int32} {P t S e n : Nat} (w : zGs h b P t S e) (hP : 0 < P) (h4 : h 4 = 0) (hn : n < 9) : ∃ t', zGs (zEtH h (zGoB b t n) t P) (zEtB h (zGoB b t n) t P) P t' S (e + 1) := by
  refine zGs_et w hP h4 (fun p hp => ?_) (fun p hp hpt => ?_)
  · unfold zGoB
    by_cases e : p = t
    · subst e
      rw [va_ups]
      exact zBx_ld (w.2.1 p hp) hn
    · rw [va_upn _ _ e]
      exact w.2.1 p hp
  · unfold zGoB
    rw [va_upn _ _ hpt]
    exact (w.2.2.2.2.2.2 h4).2 p hp
theorem zGs_lk {h : Nat → Int32} {b : Nat → Nat → Int32} {P t S e : Nat} {n : Int32} (w : zGs h b P t S e) (hP : 0 < P) (h4 : h 4 = 0) : ∃ t', zGs (zEtH h (zLkB b t n) t P) (zEtB h (zLkB b t n) t P) P t' S (e + 1) := by
  refine zGs_et w hP h4 (fun p hp => ?_) (fun p hp hpt => ?_)
  · unfold zLkB
    by_cases e : p = t
    · subst e
      rw [va_ups]
      exact zBx_25 (w.2.1 p hp) _
    · rw [va_upn _ _ e]
      exact w.2.1 p hp
  · unfold zLkB
    rw [va_upn _ _ hpt]
    exact (w.2.2.2.2.2.2 h4).2 p hp
theorem zFt_fn {h : Nat → Int32} {b : Nat → Nat → Int32} {P t S : Nat} (w : zWf h b P t S) (hP : 0 < P) : zFn b S t < 9 := (zFn_ok (w.2.2 t (w.2.1 hP).1).2.1).1
theorem zGs_ft {h : Nat → Int32} {b : Nat → Nat → Int32} {P t S e : Nat} (sf : Nat → Int32) (w : zGs h b P t S e) (hr : zRu h = true) : ∃ t', zGs (zFtH h b P t S sf) (zFtB h b P t S sf) P t' S (e + 1) := by
  have hP := zRu_P w.1.1.1 w.1.1.2.1 hr
  have h4 := zRu_4 hr
  have hP4 := w.1.1.2.1
  have hfn := zFt_fn w.1 hP
  have key : zGs (zF1H h b S P sf) (zF1B h b S P sf) P t S e ∧ zF1H h b S P sf 4 = 0 := by
    unfold zF1H zF1B
    split
    · exact ⟨w, h4⟩
    · rcases zCs_ok h b S P sf with q | ⟨k, n, d, hk, hn, hd, e1, e2, e3, hm⟩
      · rename_i q2
        exact absurd q q2
      · rw [e1, e2, e3, nI_clamp (by omega), nI_clamp (by omega)]
        exact ⟨zGs_sh w hk hn, by rw [zShH, pk_un (by decide)]; exact h4⟩
  have h9 := zGs_go key.1 hP key.2 hfn
  unfold zFtH zFtB
  exact h9
theorem zCl_gs : zGs zClH (fun _ _ => 0) 0 0 4 0 := by
  refine ⟨⟨⟨rfl, by decide, rfl, by decide, rfl, by decide, Or.inl rfl, Or.inl rfl⟩, fun q => absurd q (by decide), fun p hp => absurd hp (Nat.not_lt_zero p)⟩, fun p hp => absurd hp (Nat.not_lt_zero p), ⟨3, by decide, by decide, rfl⟩, ⟨60, by decide, by decide, rfl⟩, rfl, by decide, fun _ => ⟨by decide, fun p hp => absurd hp (Nat.not_lt_zero p)⟩⟩
theorem zGdH_n {h : Nat → Int32} {n k : Nat} (hk : 6 ≤ k) : zGdH h n k = h k := by
  unfold zGdH
  rw [pk_un (by omega), pk_un (by omega), pk_un (by omega), pk_un (by omega), pk_un (by omega), pk_un (by omega)]
theorem zBg_dl : ∀ (k i : Nat) (y : Int64) (d : Nat → Nat → Int32), (∀ p, p < i → ∃ z, d p = zDl zZ z) → ∀ p, p < i + k → ∃ z, (zIt (zDeal (zDx zZ) (zDl zZ)) k i (y, d)).2 p = zDl zZ z
  | 0, _, _, _, h, p, hp => h p hp
  | k + 1, i, y, d, h, p, hp => by
    rw [zIt_s, zDeal_e]
    refine zBg_dl k (i + 1) (zDx zZ y) (va_up d i (zDl zZ y)) (fun q hq => ?_) p (by omega)
    by_cases e : q = i
    · subst e
      exact ⟨y, va_ups _ _ _⟩
    · rw [va_upn _ _ e]
      exact h q (by omega)
theorem zBg_bd {n : Nat} (x : Int64) (b : Nat → Nat → Int32) {p : Nat} (hp : p < n) : ∃ z, (zBg n x b).2 p = zDl zZ z := by
  rw [zBg_e, zBs_deal]
  exact zBg_dl n 0 x b (fun q hq => absurd hq (Nat.not_lt_zero q)) p (by omega)
theorem zGs_bg {h : Nat → Int32} {b c : Nat → Nat → Int32} {P t S e n : Nat} {x : Int64} (w : zGs h b P t S e) (hn2 : 2 ≤ n) (hn4 : n ≤ 4) (hc : ∀ p, p < n → c p = (zBg n x b).2 p) : zGs (zGdH h n) c n 0 S 0 := by
  have hd : ∀ p, p < n → ∃ z, c p = zDl zZ z := fun p hp => by
    rw [hc p hp]
    exact zBg_bd x b hp
  refine ⟨⟨⟨?_, hn4, ?_, by decide, ?_, w.1.1.2.2.2.2.2.1, Or.inl ?_, Or.inl ?_⟩, fun _ => ⟨by omega, hn2⟩, fun p hp => ?_⟩, fun p hp => ?_, ?_, ?_, ?_, by decide, fun _ => ⟨by decide, fun p hp => ?_⟩⟩
  · unfold zGdH
    rw [pk_un (by decide), pk_un (by decide), pk_un (by decide), pk_un (by decide), pk_un (by decide), pk_us]
  · unfold zGdH
    rw [pk_un (by decide), pk_un (by decide), pk_un (by decide), pk_un (by decide), pk_us]
    rfl
  · rw [zGdH_n (by decide)]; exact w.1.1.2.2.2.2.1
  · unfold zGdH
    rw [pk_un (by decide), pk_un (by decide), pk_un (by decide), pk_us]
  · unfold zGdH
    rw [pk_un (by decide), pk_us]
  · obtain ⟨z, ez⟩ := hd p hp
    rw [ez]
    exact zBw_dl z
  · obtain ⟨z, ez⟩ := hd p hp
    rw [ez]
    exact zBx_dl z
  · rw [zGdH_n (by decide)]; exact w.2.2.1
  · rw [zGdH_n (by decide)]; exact w.2.2.2.1
  · unfold zGdH
    rw [pk_un (by decide), pk_un (by decide), pk_us]
    rfl
  · obtain ⟨z, ez⟩ := hd p hp
    rw [ez, zDl_23]
    decide
/-! STEPS of a game, as functions of (head, boards) -/
abbrev zHB : Type := (Nat → Int32) × (Nat → Nat → Int32)
def zPp (h : Nat → Int32) : Nat := (h 0).toNatClampNeg
def zTt (h : Nat → Int32) : Nat := (h 1).toNatClampNeg
def zSs (h : Nat → Int32) : Nat := (h 6).toNatClampNeg
theorem zWf_e {h : Nat → Int32} {b : Nat → Nat → Int32} {P t S : Nat} (w : zWf h b P t S) : zPp h = P ∧ zTt h = t ∧ zSs h = S := by
  obtain ⟨⟨hh0, hP4, hh1, ht4, hh6, hS9, _, _⟩, _, _⟩ := w
  unfold zPp zTt zSs
  rw [hh0, hh1, hh6, nI_clamp (by omega), nI_clamp (by omega), nI_clamp (by omega)]
  exact ⟨rfl, rfl, rfl⟩
def zShS (k n : Nat) (d : Int32) (s : zHB) : zHB := (zShH s.1, va_up s.2 k (zMv (s.2 k) n d))
def zGoS (n : Nat) (s : zHB) : zHB := (zEtH s.1 (zGoB s.2 (zTt s.1) n) (zTt s.1) (zPp s.1), zEtB s.1 (zGoB s.2 (zTt s.1) n) (zTt s.1) (zPp s.1))
def zLkS (n : Int32) (s : zHB) : zHB := (zEtH s.1 (zLkB s.2 (zTt s.1) n) (zTt s.1) (zPp s.1), zEtB s.1 (zLkB s.2 (zTt s.1) n) (zTt s.1) (zPp s.1))
def zPlq (s : zHB) : zHB := (zFtH s.1 s.2 (zPp s.1) (zTt s.1) (zSs s.1) zZ, zFtB s.1 s.2 (zPp s.1) (zTt s.1) (zSs s.1) zZ)
theorem zCo_sf {h : Nat → Int32} {b : Nat → Nat → Int32} {S k n : Nat} {w : Int32} {u v : zRU} (e : (u.1, u.2.1, u.2.2.1, u.2.2.2.1) = (v.1, v.2.1, v.2.2.1, v.2.2.2.1)) : ((zCo h b S k n w u).1, (zCo h b S k n w u).2.1, (zCo h b S k n w u).2.2.1, (zCo h b S k n w u).2.2.2.1) = ((zCo h b S k n w v).1, (zCo h b S k n w v).2.1, (zCo h b S k n w v).2.2.1, (zCo h b S k n w v).2.2.2.1) := by
  obtain ⟨u1, u2, u3, u4, u5⟩ := u
  obtain ⟨v1, v2, v3, v4, v5⟩ := v
  have e : (u1, u2, u3, u4) = (v1, v2, v3, v4) := e
  cases e
  unfold zCo
  split
  · split <;> rfl
  · rfl
def zR4 (u v : zRU) : Prop := (u.1, u.2.1, u.2.2.1, u.2.2.2.1) = (v.1, v.2.1, v.2.2.1, v.2.2.2.1)
theorem zCs_sf (h : Nat → Int32) (b : Nat → Nat → Int32) (S P : Nat) (sf sg : Nat → Int32) : zR4 (zCs h b S P sf) (zCs h b S P sg) := by
  rw [zCs_e, zCs_e]
  refine zIt_rel (R := fun _ u v => zR4 u v) P 0 _ _ (fun j u v _ _ hs => ?_) rfl
  rw [zC2_e, zC2_e]
  refine zIt_rel (R := fun _ u v => zR4 u v) 6 0 _ _ (fun i u v _ _ hs => ?_) hs
  rw [zC1_e, zC1_e]
  exact zCo_sf (zCo_sf hs)
theorem zR4_1 {u v : zRU} (h : zR4 u v) : u.1 = v.1 ∧ u.2.1 = v.2.1 ∧ u.2.2.1 = v.2.2.1 := by
  obtain ⟨u1, u2, u3, u4, u5⟩ := u
  obtain ⟨v1, v2, v3, v4, v5⟩ := v
  have e : (u1, u2, u3, u4) = (v1, v2, v3, v4) := h
  cases e
  exact ⟨rfl, rfl, rfl⟩
theorem zF1_sf (h : Nat → Int32) (b : Nat → Nat → Int32) (S P : Nat) (sf sg : Nat → Int32) : zF1H h b S P sf = zF1H h b S P sg ∧ zF1B h b S P sf = zF1B h b S P sg := by
  obtain ⟨e1, e2, e3⟩ := zR4_1 (zCs_sf h b S P sf sg)
  unfold zF1H zF1B
  rw [e1, e2, e3]
  exact ⟨rfl, rfl⟩
theorem zFt_sf (h : Nat → Int32) (b : Nat → Nat → Int32) (P t S : Nat) (sf sg : Nat → Int32) : zFtH h b P t S sf = zFtH h b P t S sg ∧ zFtB h b P t S sf = zFtB h b P t S sg ∧ zFtR h b P t S sf = zFtR h b P t S sg := by
  obtain ⟨e1, e2⟩ := zF1_sf h b S P sf sg
  unfold zFtH zFtB zFtR
  rw [e1, e2]
  exact ⟨rfl, rfl, rfl⟩
theorem zQ_e {h : Nat → Int32} {b : Nat → Nat → Int32} {P t S : Nat} (w : zWf h b P t S) (sf : Nat → Int32) : zPlq (h, b) = (zFtH h b P t S sf, zFtB h b P t S sf) := by
  obtain ⟨e1, e2, e3⟩ := zWf_e w
  show (zFtH h b (zPp h) (zTt h) (zSs h) zZ, zFtB h b (zPp h) (zTt h) (zSs h) zZ) = _
  rw [e1, e2, e3, (zFt_sf h b P t S zZ sf).1, (zFt_sf h b P t S zZ sf).2.1]
theorem zGoS_e {h : Nat → Int32} {b : Nat → Nat → Int32} {P t S : Nat} (w : zWf h b P t S) (n : Nat) : zGoS n (h, b) = (zEtH h (zGoB b t n) t P, zEtB h (zGoB b t n) t P) := by
  obtain ⟨e1, e2, e3⟩ := zWf_e w
  show (zEtH h (zGoB b (zTt h) n) (zTt h) (zPp h), zEtB h (zGoB b (zTt h) n) (zTt h) (zPp h)) = _
  rw [e1, e2]
theorem zLkS_e {h : Nat → Int32} {b : Nat → Nat → Int32} {P t S : Nat} (w : zWf h b P t S) (n : Int32) : zLkS n (h, b) = (zEtH h (zLkB b t n) t P, zEtB h (zLkB b t n) t P) := by
  obtain ⟨e1, e2, e3⟩ := zWf_e w
  show (zEtH h (zLkB b (zTt h) n) (zTt h) (zPp h), zEtB h (zLkB b (zTt h) n) (zTt h) (zPp h)) = _
  rw [e1, e2]
def zXy (s : zHB) : Prop := ∃ P t S e, zGs s.1 s.2 P t S e
def zEd (s : zHB) (e : Nat) : Prop := ∃ P t S, zGs s.1 s.2 P t S e
theorem zQ_gs {h : Nat → Int32} {b : Nat → Nat → Int32} {P t S e : Nat} (w : zGs h b P t S e) (hr : zRu h = true) : ∃ t', zGs (zPlq (h, b)).1 (zPlq (h, b)).2 P t' S (e + 1) := by
  rw [zQ_e w.1 zZ]
  exact zGs_ft zZ w hr
def zRun : Nat → zHB → zHB
  | 0, s => s
  | k + 1, s => if zRu s.1 = true then zRun k (zPlq s) else s
theorem zRun_e0 (s : zHB) : zRun 0 s = s := rfl
theorem zRun_on {k : Nat} {s : zHB} (hr : zRu s.1 = true) : zRun (k + 1) s = zRun k (zPlq s) := by
  rw [zRun, if_pos hr]
theorem zRun_off : ∀ {k : Nat} {s : zHB}, ¬ zRu s.1 = true → zRun k s = s
  | 0, _, _ => rfl
  | k + 1, s, h => by rw [zRun, if_neg h]
def zMvS (r : Nat) (s : zHB) : zHB :=
  if s.1 2 = 0 then (if zMs s.1 s.2 (r % 4) (nI (r / 4 % 6)) (nI (r / 32 % 2)) = true then zShS (r % 4) (r / 4 % 6) (nI (r / 32 % 2)) s else zPlq s)
  else if r % 8 = 0 then zLkS (nI (r / 8 % 6)) s
  else if zMg s.1 s.2 (zSs s.1) (zTt s.1) (nI (r / 8 % 9)) = true then zGoS (r / 8 % 9) s else zPlq s
def zSml : Nat → Int64 → zHB → zHB
  | 0, _, s => s
  | k + 1, y, s => if zRu s.1 = true then zSml k (zNx y) (zMvS (zRk y) s) else s
def zCmdB (w a b c : Nat) (s : zHB) : Bool :=
  if w = 1 then zMs s.1 s.2 a (nI b) (nI c)
  else if w = 2 then decide (a = 0) && decide (b = 0) && zMg s.1 s.2 (zSs s.1) (zTt s.1) (nI c)
  else if w = 3 then decide (a = 0) && decide (b = 0) && zLi (nI c) && zMe s.1
  else if w = 4 then decide (a = 0) && decide (b = 0) && decide (c = 0) && zRu s.1
  else if w = 5 then decide (c = 0) && zRs s.1 s.2 (zSs s.1) a (nI b)
  else if w = 6 then decide (b = 0) && zHp s.1 (nI a) && decide (nI c ≤ s.2 a 23)
  else if w = 7 then decide (c = 0) && zHp s.1 (nI a) && zLi (nI b) && decide (s.2 a 25 = nI b)
  else if w = 8 then decide (a = 0) && decide (b = 0) && zRu s.1 && decide (s.1 1 = nI c)
  else if w = 9 then decide (s.1 3 ≤ nI (100 * a + 10 * b + c))
  else false
def zCmdS (w a b c : Nat) (s : zHB) : zHB :=
  if w = 1 then zShS a b (nI c) s
  else if w = 2 then zGoS c s
  else if w = 3 then zLkS (nI c) s
  else if w = 4 then zPlq s
  else s
theorem zGs_X {h : Nat → Int32} {b : Nat → Nat → Int32} {P t S e : Nat} (w : zGs h b P t S e) : zX h b := ⟨P, t, S, e, w⟩
theorem zMs_r {h : Nat → Int32} {b : Nat → Nat → Int32} {k : Nat} {n d : Int32} (hm : zMs h b k n d = true) : zRu h = true ∧ h 2 = 0 ∧ zHp h (nI k) = true ∧ zLi n = true ∧ zDi d = true := by
  simp only [zMs, Bool.and_eq_true, decide_eq_true_eq] at hm
  exact ⟨hm.1.1.1.1.1.1, hm.1.1.1.1.1.2, hm.1.1.1.1.2, hm.1.1.2, hm.1.2⟩
theorem zMe_r {h : Nat → Int32} (hm : zMe h = true) : zRu h = true := by
  simp only [zMe, Bool.and_eq_true] at hm
  exact hm.1
theorem zMg_r {h : Nat → Int32} {b : Nat → Nat → Int32} {S t : Nat} {n : Int32} (hm : zMg h b S t n = true) : zMe h = true ∧ zRu h = true := by
  simp only [zMg, Bool.and_eq_true] at hm
  exact ⟨hm.1, zMe_r hm.1⟩
theorem zXs_sh {s : zHB} {k n : Nat} {d : Int32} (w : zXy s) (hk : k < 1000) (hn : n < 1000) (hm : zMs s.1 s.2 k (nI n) d = true) : zXy (zShS k n d s) := by
  obtain ⟨P, t, S, e, w⟩ := w
  have h := zMs_r hm
  exact ⟨P, t, S, e, zGs_sh w ((zHp_lt w.1.1.1 w.1.1.2.1 (by omega)).mp h.2.2.1) (zLi_lt (by omega) h.2.2.2.1)⟩
theorem zXs_go {s : zHB} {n : Nat} (w : zXy s) (hr : zRu s.1 = true) (hn : n < 9) : zXy (zGoS n s) := by
  obtain ⟨P, t, S, e, w⟩ := w
  have h := zGoS_e w.1 n
  obtain ⟨t', w'⟩ := zGs_go w (zRu_P w.1.1.1 w.1.1.2.1 hr) (zRu_4 hr) hn
  refine ⟨P, t', S, e + 1, ?_⟩
  rw [show zGoS n s = zGoS n (s.1, s.2) from rfl, h]
  exact w'
theorem zXs_lk {s : zHB} {n : Int32} (w : zXy s) (hr : zRu s.1 = true) : zXy (zLkS n s) := by
  obtain ⟨P, t, S, e, w⟩ := w
  have h := zLkS_e w.1 n
  obtain ⟨t', w'⟩ := zGs_lk (n := n) w (zRu_P w.1.1.1 w.1.1.2.1 hr) (zRu_4 hr)
  refine ⟨P, t', S, e + 1, ?_⟩
  rw [show zLkS n s = zLkS n (s.1, s.2) from rfl, h]
  exact w'
theorem zXs_q {s : zHB} (w : zXy s) (hr : zRu s.1 = true) : zXy (zPlq s) := by
  obtain ⟨P, t, S, e, w⟩ := w
  obtain ⟨t', w'⟩ := zQ_gs w hr
  exact ⟨P, t', S, e + 1, w'⟩
theorem zXs_mv {s : zHB} {r : Nat} (hr9 : r < 2 ^ 31) (w : zXy s) (hr : zRu s.1 = true) : zXy (zMvS r s) := by
  unfold zMvS
  split
  · split
    · rename_i hm
      exact zXs_sh w (by omega) (by omega) hm
    · exact zXs_q w hr
  · split
    · exact zXs_lk w hr
    · split
      · exact zXs_go w hr (by omega)
      · exact zXs_q w hr
theorem zXs_cmd {s : zHB} {w a b c : Nat} (hx : zXy s) (ha : a < 10) (hb : b < 10) (hc : c < 10) (hm : zCmdB w a b c s = true) : zXy (zCmdS w a b c s) := by
  unfold zCmdB at hm
  unfold zCmdS
  by_cases e1 : w = 1
  · rw [if_pos e1] at hm ⊢
    exact zXs_sh hx (by omega) (by omega) hm
  rw [if_neg e1] at hm ⊢
  by_cases e2 : w = 2
  · rw [if_pos e2] at hm ⊢
    rw [Bool.and_eq_true] at hm
    exact zXs_go hx (zMg_r hm.2).2 (zMg_lt (by omega) hm.2)
  rw [if_neg e2] at hm ⊢
  by_cases e3 : w = 3
  · rw [if_pos e3] at hm ⊢
    rw [Bool.and_eq_true] at hm
    exact zXs_lk hx (zMe_r hm.2)
  rw [if_neg e3] at hm ⊢
  by_cases e4 : w = 4
  · rw [if_pos e4] at hm ⊢
    rw [Bool.and_eq_true] at hm
    exact zXs_q hx hm.2
  rw [if_neg e4]
  exact hx
/-! games that agree on the boards of their players -/
def zBe (P : Nat) (b c : Nat → Nat → Int32) : Prop := ∀ p, p < P → b p = c p
theorem zBe_up {P k : Nat} {b c : Nat → Nat → Int32} {f g : Nat → Int32} (h : zBe P b c) (e : f = g) : zBe P (va_up b k f) (va_up c k g) := by
  subst e
  intro p hp
  by_cases q : p = k
  · subst q
    rw [va_ups, va_ups]
  · rw [va_upn _ _ q, va_upn _ _ q]
    exact h p hp
theorem zIt_cong {α : Type} {F F' : Nat → α → α} : ∀ (k i : Nat) (s : α), (∀ j s, i ≤ j → j < i + k → F j s = F' j s) → zIt F k i s = zIt F' k i s
  | 0, _, _, _ => rfl
  | k + 1, i, s, h => by
    rw [zIt_s, zIt_s, h i s (Nat.le_refl i) (by omega)]
    exact zIt_cong k (i + 1) _ (fun j s h1 h2 => h j s (by omega) (by omega))
theorem zMs_b {h : Nat → Int32} {b c : Nat → Nat → Int32} {k : Nat} (e : b k = c k) (n d : Int32) : zMs h b k n d = zMs h c k n d := by
  unfold zMs
  rw [e]
theorem zMs_be {h : Nat → Int32} {b c : Nat → Nat → Int32} {P k : Nat} (h0 : h 0 = nI P) (hP : P ≤ 4) (hk : k < 1000) (q : zBe P b c) (n d : Int32) : zMs h b k n d = zMs h c k n d := by
  by_cases e : k < P
  · exact zMs_b (q k e) n d
  · have h1 : zHp h (nI k) = false := by
      rw [Bool.eq_false_iff]
      exact fun z => e ((zHp_lt h0 hP (by omega)).mp z)
    unfold zMs
    rw [h1]
    cases zRu h <;> cases decide (h 2 = 0) <;> rfl
theorem zCo_b {h : Nat → Int32} {b c : Nat → Nat → Int32} {k : Nat} (e : b k = c k) (S n : Nat) (w : Int32) (u : zRU) : zCo h b S k n w u = zCo h c S k n w u := by
  unfold zCo
  rw [zMs_b e, e]
theorem zCs_b {h : Nat → Int32} {b c : Nat → Nat → Int32} {P : Nat} (q : zBe P b c) (S : Nat) (sf : Nat → Int32) : zCs h b S P sf = zCs h c S P sf := by
  rw [zCs_e, zCs_e]
  refine zIt_cong P 0 _ (fun j s _ h2 => ?_)
  rw [zC2_e, zC2_e]
  refine zIt_cong 6 0 _ (fun i s _ _ => ?_)
  have e := q j (by omega)
  rw [zC1_e, zC1_e, zCo_b e, zCo_b e]
theorem zF1_b {h : Nat → Int32} {b c : Nat → Nat → Int32} {P : Nat} (hP4 : P ≤ 4) (q : zBe P b c) (S : Nat) (sf : Nat → Int32) : zF1H h b S P sf = zF1H h c S P sf ∧ zBe P (zF1B h b S P sf) (zF1B h c S P sf) := by
  have e := zCs_b (h := h) q S sf
  unfold zF1H zF1B
  rw [e]
  refine ⟨rfl, ?_⟩
  split
  · exact q
  · rcases zCs_ok h c S P sf with z | ⟨k, n, d, hk, hn, hd, e1, e2, e3, hm⟩
    · rename_i z2
      exact absurd z z2
    · rw [e1, nI_clamp (by omega)]
      unfold zShB
      exact zBe_up q (by rw [q k hk])
theorem zEt_b {h : Nat → Int32} {b c : Nat → Nat → Int32} {P t : Nat} (q : zBe P b c) (ht : t < P) : zEtH h b t P = zEtH h c t P ∧ zBe P (zEtB h b t P) (zEtB h c t P) := by
  unfold zEtH zEtB
  rw [q t ht, q _ (zNt_ltP ht)]
  refine ⟨rfl, ?_⟩
  split
  · split
    · exact zBe_up q rfl
    · exact q
  · exact q
theorem zGo_b {h : Nat → Int32} {b c : Nat → Nat → Int32} {P t : Nat} (n : Nat) (q : zBe P b c) (ht : t < P) : zEtH h (zGoB b t n) t P = zEtH h (zGoB c t n) t P ∧ zBe P (zEtB h (zGoB b t n) t P) (zEtB h (zGoB c t n) t P) :=
  zEt_b (zBe_up q (by rw [q t ht])) ht
theorem zLk_b {h : Nat → Int32} {b c : Nat → Nat → Int32} {P t : Nat} (n : Int32) (q : zBe P b c) (ht : t < P) : zEtH h (zLkB b t n) t P = zEtH h (zLkB c t n) t P ∧ zBe P (zEtB h (zLkB b t n) t P) (zEtB h (zLkB c t n) t P) :=
  zEt_b (zBe_up q (by rw [q t ht])) ht
theorem zFt_b {h : Nat → Int32} {b c : Nat → Nat → Int32} {P t : Nat} (hP4 : P ≤ 4) (q : zBe P b c) (ht : t < P) (S : Nat) (sf : Nat → Int32) : zFtH h b P t S sf = zFtH h c P t S sf ∧ zBe P (zFtB h b P t S sf) (zFtB h c P t S sf) ∧ zFtR h b P t S sf = zFtR h c P t S sf := by
  obtain ⟨e1, e2⟩ := zF1_b (h := h) hP4 q S sf
  have e3 : zFn b S t = zFn c S t := by
    unfold zFn
    rw [q t ht]
  have h9 := zGo_b (h := zF1H h c S P sf) (zFn c S t) e2 ht
  unfold zFtH zFtB zFtR
  rw [e1, e3, e2 t ht]
  exact ⟨h9.1, h9.2, rfl⟩
theorem zTk_b {b c : Nat → Nat → Int32} : ∀ (k i : Nat) (x : Int32), zBe (i + k) b c → zTk b k i x = zTk c k i x
  | 0, _, _, _ => rfl
  | k + 1, i, x, q => by
    rw [zTk, zTk, q i (by omega)]
    exact zTk_b k (i + 1) _ (fun p hp => q p (by omega))
def zSm (s r : zHB) : Prop := s.1 = r.1 ∧ zBe (zPp s.1) s.2 r.2
theorem zSm_rf (s : zHB) : zSm s s := ⟨rfl, fun _ _ => rfl⟩
