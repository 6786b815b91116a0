def DNE (a b p q : Nat) : Prop := p < a ∨ (p = a ∧ q < b)
def CPP (dd : Nat → Nat → Nat) (I : Nat → Bool) (a b : Nat) (w v : Int32) : Prop := (w = -1 ∧ ∀ p q, DNE a b p q → p < q → I p = true → I q = true → False) ∨ ∃ p q, w = nI p ∧ v = nI q ∧ p < q ∧ I p = true ∧ I q = true ∧ DNE a b p q ∧ ∀ x y, DNE a b x y → x < y → I x = true → I y = true → pkN dd p q ≤ pkN dd x y
theorem cp_conv {dd : Nat → Nat → Nat} {I : Nat → Bool} {a b c d : Nat} {w v : Int32} (h : CPP dd I a b w v) (e : ∀ p q, p < q → I p = true → I q = true → (DNE a b p q ↔ DNE c d p q)) : CPP dd I c d w v := by
  rcases h with ⟨h1, h2⟩ | ⟨p, q, h1, h2, h3, h4, h5, h6, h7⟩
  · exact Or.inl ⟨h1, fun p q z hpq hp hq => h2 p q ((e p q hpq hp hq).mpr z) hpq hp hq⟩
  · exact Or.inr ⟨p, q, h1, h2, h3, h4, h5, (e p q h3 h4 h5).mp h6, fun x y z hxy hx hy => h7 x y ((e x y hxy hx hy).mpr z) hxy hx hy⟩
theorem cp_skip {dd : Nat → Nat → Nat} {I : Nat → Bool} {a b : Nat} {w v : Int32} (h : CPP dd I a b w v) (hn : I a = true → I b = true → False) : CPP dd I a (b + 1) w v := cp_conv h (fun p q hpq hp hq => by
  unfold DNE
  constructor
  · intro z; omega
  · intro z
    by_cases c : p = a ∧ q = b
    · rw [c.1] at hp; rw [c.2] at hq; exact absurd (hn hp hq) (fun y => y)
    · omega)
theorem pk_lt' {dd : Nat → Nat → Nat} {p q x y : Nat} (hpq : p < q) (hxy : x < y) (hq : q < 60) (hy : y < 60) (h : dd p q < dd x y ∨ (dd p q ≤ dd x y ∧ (p < x ∨ (p = x ∧ q ≤ y)))) : pkN dd p q ≤ pkN dd x y := by
  unfold pkN
  rw [show Nat.min p q = p from Nat.min_eq_left (by omega), show Nat.max p q = q from Nat.max_eq_right (by omega), show Nat.min x y = x from Nat.min_eq_left (by omega), show Nat.max x y = y from Nat.max_eq_right (by omega)]
  omega
theorem cp_new {dd : Nat → Nat → Nat} {I : Nat → Bool} {a b : Nat} {w v : Int32} (h : CPP dd I a b w v) (hw : w = -1) (ha : I a = true) (hb : I b = true) (hab : a < b) (h60 : ∀ t, I t = true → t < 60) : CPP dd I a (b + 1) (nI a) (nI b) := by
  rcases h with ⟨-, h2⟩ | ⟨p, q, h1, -, h3, h4, -⟩
  · refine Or.inr ⟨a, b, rfl, rfl, hab, ha, hb, Or.inr ⟨rfl, by omega⟩, fun x y z hxy hx hy => ?_⟩
    by_cases c : x = a ∧ y = b
    · rw [c.1, c.2]; exact Nat.le_refl _
    · exact absurd (h2 x y (by unfold DNE at z ⊢; omega) hxy hx hy) (fun y => y)
  · rw [h1] at hw
    exact absurd hw (nI_m1 (by have := h60 p h4; omega))
theorem cp_keep {dd : Nat → Nat → Nat} {I : Nat → Bool} {a b p q : Nat} (h60 : ∀ t, I t = true → t < 60) (h3 : p < q) (h4 : I p = true) (h5 : I q = true) (h6 : DNE a b p q) (h7 : ∀ x y, DNE a b x y → x < y → I x = true → I y = true → pkN dd p q ≤ pkN dd x y) (hd : dd p q ≤ dd a b) : CPP dd I a (b + 1) (nI p) (nI q) := by
  refine Or.inr ⟨p, q, rfl, rfl, h3, h4, h5, by unfold DNE at h6 ⊢; omega, fun x y z hxy hx hy => ?_⟩
  by_cases c : x = a ∧ y = b
  · rw [c.1, c.2]
    rw [c.1] at hxy
    rw [c.2] at hxy hy
    exact pk_lt' h3 hxy (h60 q h5) (h60 b hy) (Or.inr ⟨hd, by unfold DNE at h6; omega⟩)
  · exact h7 x y (by unfold DNE at z ⊢; omega) hxy hx hy
theorem cp_take {dd : Nat → Nat → Nat} {I : Nat → Bool} {a b p q : Nat} (h60 : ∀ t, I t = true → t < 60) (hab : a < b) (ha : I a = true) (hb : I b = true) (h3 : p < q) (h5 : I q = true) (h7 : ∀ x y, DNE a b x y → x < y → I x = true → I y = true → pkN dd p q ≤ pkN dd x y) (hd : dd a b < dd p q) : CPP dd I a (b + 1) (nI a) (nI b) := by
  refine Or.inr ⟨a, b, rfl, rfl, hab, ha, hb, Or.inr ⟨rfl, by omega⟩, fun x y z hxy hx hy => ?_⟩
  by_cases c : x = a ∧ y = b
  · rw [c.1, c.2]; exact Nat.le_refl _
  · exact Nat.le_trans (pk_lt' hab h3 (h60 b hb) (h60 q h5) (Or.inl hd)) (h7 x y (by unfold DNE at z ⊢; omega) hxy hx hy)
theorem cI_find {I : Nat → Bool} : ∀ n, 0 < cI I n → ∃ t, t < n ∧ I t = true := by
  intro n
  induction n with
  | zero => intro h; exact absurd h (Nat.lt_irrefl 0)
  | succ n ih =>
    intro h
    by_cases c : I n = true
    · exact ⟨n, by omega, c⟩
    · have h2 : 0 < cI I n + (if I n = true then 1 else 0) := h
      rw [if_neg c] at h2
      obtain ⟨t, ht, e⟩ := ih h2
      exact ⟨t, by omega, e⟩
theorem cI_two {I : Nat → Bool} : ∀ n, 2 ≤ cI I n → ∃ p q, p < q ∧ q < n ∧ I p = true ∧ I q = true := by
  intro n
  induction n with
  | zero => intro h; exact absurd (show 2 ≤ 0 from h) (by decide)
  | succ n ih =>
    intro h
    have h2 : 2 ≤ cI I n + (if I n = true then 1 else 0) := h
    by_cases c : I n = true
    · rw [if_pos c] at h2
      obtain ⟨t, ht, e⟩ := cI_find (I := I) n (by omega)
      exact ⟨t, n, ht, by omega, e, c⟩
    · rw [if_neg c] at h2
      obtain ⟨p, q, h3, h4, h5⟩ := ih h2
      exact ⟨p, q, h3, by omega, h5⟩
theorem cI_clr {I : Nat → Bool} {w : Nat} : ∀ n, cI I n ≤ cI (clrB I w) n + (if w < n then 1 else 0) := by
  intro n
  induction n with
  | zero => exact Nat.le_refl _
  | succ n ih =>
    show cI I n + (if I n = true then 1 else 0) ≤ cI (clrB I w) n + (if clrB I w n = true then 1 else 0) + (if w < n + 1 then 1 else 0)
    by_cases c : n = w
    · have e1 : clrB I w n = false := by unfold clrB; rw [if_pos c]
      have e3 : (if w < n + 1 then 1 else 0) = 1 := if_pos (by omega)
      have e4 : (if w < n then 1 else 0) = 0 := if_neg (by omega)
      have e5 : (if I n = true then 1 else 0) ≤ 1 := by split <;> omega
      rw [e1, e3]
      rw [e4] at ih
      simp only [Bool.false_eq_true, if_false]
      omega
    · have e1 : clrB I w n = I n := by unfold clrB; rw [if_neg c]
      have e2 : (w < n + 1) = (w < n) := propext (by omega)
      rw [e1]
      simp only [e2]
      omega
theorem cI_sub : ∀ (c : Nat) (I : Nat → Bool) (t : Nat → Nat) (n : Nat), (∀ x, x < n → I x = true → ∃ i, i < c ∧ t i = x) → cI I n ≤ c := by
  intro c
  induction c with
  | zero =>
    intro I t n h
    rcases Nat.eq_zero_or_pos (cI I n) with q | q
    · omega
    · obtain ⟨x, hx, e⟩ := cI_find n q
      obtain ⟨i, hi, -⟩ := h x hx e
      exact absurd hi (Nat.not_lt_zero i)
  | succ c ih =>
    intro I t n h
    have h1 := cI_clr (I := I) (w := t c) n
    have h2 := ih (clrB I (t c)) t n (fun x hx hI => by
      unfold clrB at hI
      by_cases q : x = t c
      · rw [if_pos q] at hI; cases hI
      · rw [if_neg q] at hI
        obtain ⟨i, hi, e⟩ := h x hx hI
        rcases Nat.lt_or_ge i c with y | y
        · exact ⟨i, y, e⟩
        · rw [show i = c by omega] at e
          exact absurd e.symm q)
    have h3 : (if t c < n then 1 else 0) ≤ 1 := by split <;> omega
    omega
/-- from the nearest of the results, as the reference counts -/
def mrN (dd : Nat → Nat → Nat) (x : Nat) (t : Nat → Nat) : Nat → Nat
  | 0 => 2147483647
  | i + 1 => Nat.min (mrN dd x t i) (dd x (t i))
theorem mr_le (dd : Nat → Nat → Nat) (x : Nat) (t : Nat → Nat) : ∀ c, mrN dd x t c ≤ 2147483647 := by
  intro c
  induction c with
  | zero => exact Nat.le_refl _
  | succ c ih => exact Nat.le_trans (Nat.min_le_left _ _) ih
theorem mr_md {dd : Nat → Nat → Nat} {x : Nat} {t : Nat → Nat} : ∀ c, 1 ≤ c → (∀ i, i < c → dd x (t i) = dd (t i) x ∧ dd (t i) x ≤ 100000) → mrN dd x t c = md dd t c x := by
  intro c
  induction c with
  | zero => intro h; exact absurd h (by decide)
  | succ c ih =>
    intro _ h
    show Nat.min (mrN dd x t c) (dd x (t c)) = Nat.min (md dd t c x) (dd (t c) x)
    rw [(h c (by omega)).1]
    rcases Nat.eq_zero_or_pos c with q | q
    · subst q
      show Nat.min 2147483647 _ = Nat.min 100000 _
      have := (h 0 (by omega)).2
      rw [show Nat.min 2147483647 (dd (t 0) x) = dd (t 0) x from Nat.min_eq_right (by omega), show Nat.min 100000 (dd (t 0) x) = dd (t 0) x from Nat.min_eq_right this]
    · rw [ih q (fun i hi => h i (by omega))]
theorem mr_gt {dd : Nat → Nat → Nat} {x r : Nat} {t : Nat → Nat} : ∀ c, (r < mrN dd x t c ↔ (r < 2147483647 ∧ ∀ i, i < c → r < dd x (t i))) := by
  intro c
  induction c with
  | zero => exact ⟨fun h => ⟨h, fun i hi => absurd hi (Nat.not_lt_zero i)⟩, fun h => h.1⟩
  | succ c ih =>
    show r < Nat.min _ _ ↔ _
    rw [Nat.lt_min, ih]
    constructor
    · rintro ⟨⟨h1, h2⟩, h3⟩
      exact ⟨h1, lt_s h2 h3⟩
    · rintro ⟨h1, h2⟩
      exact ⟨⟨h1, fun i hi => h2 i (by omega)⟩, h2 c (by omega)⟩
theorem mr_congr {dd : Nat → Nat → Nat} {x : Nat} {t t2 : Nat → Nat} : ∀ c, (∀ i, i < c → t i = t2 i) → mrN dd x t c = mrN dd x t2 c := by
  intro c
  induction c with
  | zero => intro _; rfl
  | succ c ih =>
    intro h
    show Nat.min _ _ = Nat.min _ _
    rw [ih (fun i hi => h i (by omega)), h c (by omega)]

set_option maxHeartbeats 4000000 in
set_option maxRecDepth 100000 in
theorem c_X11_closest (E : Ev) (A : Nat → Nat) (ln : Nat → Int32) (pl : Nat → Int32) (td : Nat → Int32) (zi : Nat → Int32) (rf : Nat → Int32) (rg : Nat → Int32) (co : Nat → Int32) (bs : Nat → Int32) (zt : Nat → Int32) (al : Nat → Int32) (pp : Nat → Int32) (pw : Nat → Int32) (ph : Nat → Int32) (n : Nat) (kd : Nat) (rk : Nat) (ps : Int32) (L : Nat → Nat) (tN : Nat → Nat) (I : Nat → Bool) (rt : Nat → Nat) (ra : Nat → Nat) (x : Int32) (hK : MDK n kd L ln pl tN td) (hZ : ZI n zi I) (hR : NBR rk rf rg rt ra) : CTi E yX11_closest (wq yX11_closest cX11_closest 6 (some .int)) (rmk 3 75) [.ref (A 0), .int x] [ob (A 0) 11 [.int (nI n), .int (nI kd), .ref (A 1), .ref (A 2), .ref (A 3), .ref (A 4), .int (nI rk), .ref (A 5), .ref (A 6), .ref (A 7), .ref (A 8), .ref (A 9), .ref (A 10), .ref (A 11), .int ps, .ref (A 12), .ref (A 13)], ia E (A 1) 60 ln, ia E (A 2) 480 pl, ia E (A 3) 3600 td, za E (A 4) 60 zi, ia E (A 5) 60 rf, ia E (A 6) 60 rg, ia E (A 7) 81 co, ia E (A 8) 3 bs, za E (A 9) 60 zt, ia E (A 10) 3600 al, ia E (A 11) 60 pp, ia E (A 12) 60 pw, ia E (A 13) 60 ph] (fun (r : Int32) (u : (Nat → Int32) × (Nat → Int32)) => (∃ w0, w0 ≤ 2 ∧ x = nI w0 ∧ 2 ≤ cI I n ∧ LWK kd tN n ∧ ∃ u0 v0, CLO (dsN kd L pl tN) I u0 v0 ∧ r = nI (if w0 = 0 then u0 else if w0 = 1 then v0 else dsN kd L pl tN u0 v0)) ∨ (((∀ w0, w0 ≤ 2 → x ≠ nI w0) ∨ cI I n < 2 ∨ ¬ LWK kd tN n) ∧ r = -1)) (fun (u : (Nat → Int32) × (Nat → Int32)) => [ob (A 0) 11 [.int (nI n), .int (nI kd), .ref (A 1), .ref (A 2), .ref (A 3), .ref (A 4), .int (nI rk), .ref (A 5), .ref (A 6), .ref (A 7), .ref (A 8), .ref (A 9), .ref (A 10), .ref (A 11), .int ps, .ref (A 12), .ref (A 13)], ia E (A 1) 60 ln, ia E (A 2) 480 pl, ia E (A 3) 3600 td, za E (A 4) 60 zi, ia E (A 5) 60 rf, ia E (A 6) 60 rg, ia E (A 7) 81 u.1, ia E (A 8) 3 u.2, za E (A 9) 60 zt, ia E (A 10) 3600 al, ia E (A 11) 60 pp, ia E (A 12) 60 pw, ia E (A 13) 60 ph]) := by
  refine CTi.of (by decide) (Nat.le_of_ble_eq_true rfl) (fun X F R => ?_)
  refine g_lv [0, 1] [(0, .ref (A 0)), (1, .int x)] rfl ?_
  have hn60 := hK.1
  have hI60 : ∀ t, I t = true → t < 60 := fun t ht => Nat.lt_of_lt_of_le (hZ.2 t ht) hn60
  have hcl := cI_le I n
  refine g_iload_n F 1 rfl dX11_closest_0 ?_
  refine g_iconst F (nI 0) (by decide) dX11_closest_1 ?_
  refine g_iconst F (nI 2) (by decide) dX11_closest_2 ?_
  refine g_cSi F (wr := [ob (A 0) 11 [.int (nI n), .int (nI kd), .ref (A 1), .ref (A 2), .ref (A 3), .ref (A 4), .int (nI rk), .ref (A 5), .ref (A 6), .ref (A 7), .ref (A 8), .ref (A 9), .ref (A 10), .ref (A 11), .int ps, .ref (A 12), .ref (A 13)], ia E (A 1) 60 ln, ia E (A 2) 480 pl, ia E (A 3) 3600 td, za E (A 4) 60 zi, ia E (A 5) 60 rf, ia E (A 6) 60 rg, ia E (A 7) 81 co, ia E (A 8) 3 bs, za E (A 9) 60 zt, ia E (A 10) 3600 al, ia E (A 11) 60 pp, ia E (A 12) 60 pw, ia E (A 13) 60 ph]) [] (c_X11_lies E x (nI 0) (nI 2) ) ⟨tw_ml_X11_54, tw_sm_X11_lies, tw_in_X11, tw_co_X11_lies⟩ 3 rfl (by decide) ⟨rfl, rfl, by decide, by decide, Nat.zero_le _, Nat.zero_le _⟩ [] [0, 1, 2, 3, 4, 5, 6, 7, 8, 9, 10, 11, 12, 13] [0, 1, 2, 3, 4, 5, 6, 7, 8, 9, 10, 11, 12, 13] (fun u => [ob (A 0) 11 [.int (nI n), .int (nI kd), .ref (A 1), .ref (A 2), .ref (A 3), .ref (A 4), .int (nI rk), .ref (A 5), .ref (A 6), .ref (A 7), .ref (A 8), .ref (A 9), .ref (A 10), .ref (A 11), .int ps, .ref (A 12), .ref (A 13)], ia E (A 1) 60 ln, ia E (A 2) 480 pl, ia E (A 3) 3600 td, za E (A 4) 60 zi, ia E (A 5) 60 rf, ia E (A 6) 60 rg, ia E (A 7) 81 co, ia E (A 8) 3 bs, za E (A 9) 60 zt, ia E (A 10) 3600 al, ia E (A 11) 60 pp, ia E (A 12) 60 pw, ia E (A 13) 60 ph]) rfl rfl (by decide) (fun _ => rfl) rfl (Nat.le_of_ble_eq_true rfl) dX11_closest_3 (fun r_3 u hu_3 => ?_)
  rcases hu_3 with ⟨rfl, l1_3, l2_3⟩ | ⟨rfl, l0_3⟩
  · refine g_if_eq F 24 dX11_closest_6 (by decide) (fun h => absurd h (by decide)) (fun _ => ?_)
    refine g_aload_n F 0 rfl dX11_closest_9 ?_
    refine g_rVi F (wr := []) [] (c_X11_inBook E A ln pl td zi rf rg co bs zt al pp pw ph n kd rk ps L tN I (hK) (hZ)) (gi_V tw_ml_X11_112 tw_im_X11_inBook tw_se_X11_inBook tw_in_X11 tw_co_X11_inBook) 0 rfl (by decide) ⟨rfl, rfl, by decide, by decide, Nat.zero_le _, Nat.zero_le _⟩ 11 0 rfl rfl [0, 1, 2, 3, 4, 5, 6, 7, 8, 9, 10, 11, 12, 13] [] [0, 1, 2, 3, 4, 5, 6, 7, 8, 9, 10, 11, 12, 13] rfl rfl (by decide) rfl rfl (Nat.le_of_ble_eq_true rfl) dX11_closest_10 ?_
    refine g_iconst F (nI 2) (by decide) dX11_closest_13 ?_
    refine n_icmp_lt F 24 dX11_closest_14 (by decide) (by omega) (by omega) (fun c_14 => ?_) (fun c_14 => ?_)
    · refine g_iconst F (-1) (by decide) dX11_closest_24 ?_
      exact R _ ((co, bs)) _ _ dX11_closest_25 (by (try dsimp only); exact (Or.inr ⟨Or.inr (Or.inl c_14), rfl⟩))
    · refine g_aload_n F 0 rfl dX11_closest_17 ?_
      refine g_cVi F (wr := []) [] (c_X11_holds E A ln pl td zi rf rg co bs zt al pp pw ph n kd rk ps L tN I (hK) (hZ)) (gi_V tw_ml_X11_89 tw_im_X11_holds tw_se_X11_holds tw_in_X11 tw_co_X11_holds) 0 rfl (by decide) ⟨rfl, rfl, by decide, by decide, Nat.zero_le _, Nat.zero_le _⟩ 11 0 rfl rfl [0, 1, 2, 3, 4, 5, 6, 7, 8, 9, 10, 11, 12, 13] [] [0, 1, 2, 3, 4, 5, 6, 7, 8, 9, 10, 11, 12, 13] (fun u => [ob (A 0) 11 [.int (nI n), .int (nI kd), .ref (A 1), .ref (A 2), .ref (A 3), .ref (A 4), .int (nI rk), .ref (A 5), .ref (A 6), .ref (A 7), .ref (A 8), .ref (A 9), .ref (A 10), .ref (A 11), .int ps, .ref (A 12), .ref (A 13)], ia E (A 1) 60 ln, ia E (A 2) 480 pl, ia E (A 3) 3600 td, za E (A 4) 60 zi, ia E (A 5) 60 rf, ia E (A 6) 60 rg, ia E (A 7) 81 co, ia E (A 8) 3 u, za E (A 9) 60 zt, ia E (A 10) 3600 al, ia E (A 11) 60 pp, ia E (A 12) 60 pw, ia E (A 13) 60 ph]) rfl rfl (by decide) (fun _ => rfl) rfl (Nat.le_of_ble_eq_true rfl) dX11_closest_18 (fun r_18 u hu_18 => ?_)
      revert hu_18; revert u; intro bs2_18 hu_18
      rcases hu_18 with ⟨rfl, hlw⟩ | ⟨rfl, hk5, htb⟩
      · refine g_if_ne F 26 dX11_closest_21 (by decide) (fun _ => ?_) (fun h => absurd h (by decide))
        obtain ⟨w0, hw0, rfl⟩ := lie_r (hi := 2) (by decide) l1_3 l2_3
        refine g_iconst F (-1) (by decide) dX11_closest_26 ?_
        refine g_istore_n F 2 [(0, .ref (A 0)), (1, .int (nI w0)), (2, .int (-1))] [1, 2, 0] dX11_closest_27 rfl (by decide) rfl ?_
        refine g_iconst F (-1) (by decide) dX11_closest_28 ?_
        refine g_istore_n F 3 [(0, .ref (A 0)), (1, .int (nI w0)), (2, .int (-1)), (3, .int (-1))] [1, 2, 3, 0] dX11_closest_29 rfl (by decide) rfl ?_
        refine g_iconst F (nI 0) (by decide) dX11_closest_30 ?_
        refine g_istore F 4 [(0, .ref (A 0)), (1, .int (nI w0)), (2, .int (-1)), (3, .int (-1)), (4, .int (nI 0))] [1, 2, 3, 4, 0] dX11_closest_31 (by decide) rfl ?_
        have lp_33 : ∀ (n_33 : Nat) (a0 : Nat) (w : Int32) (v : Int32) (g : Nat → Int32), (a0 ≤ n) → (CPP (dsN kd L pl tN) I a0 0 w v) → n - a0 < n_33 → GW E X 0 0 [ob (A 0) 11 [.int (nI n), .int (nI kd), .ref (A 1), .ref (A 2), .ref (A 3), .ref (A 4), .int (nI rk), .ref (A 5), .ref (A 6), .ref (A 7), .ref (A 8), .ref (A 9), .ref (A 10), .ref (A 11), .int ps, .ref (A 12), .ref (A 13)], ia E (A 1) 60 ln, ia E (A 2) 480 pl, ia E (A 3) 3600 td, za E (A 4) 60 zi, ia E (A 5) 60 rf, ia E (A 6) 60 rg, ia E (A 7) 81 g, ia E (A 8) 3 bs2_18, za E (A 9) 60 zt, ia E (A 10) 3600 al, ia E (A 11) 60 pp, ia E (A 12) 60 pw, ia E (A 13) 60 ph] [(0, .ref (A 0)), (1, .int (nI w0)), (2, .int w), (3, .int v), (4, .int (nI a0))] 33 [] := by
          intro n_33
          induction n_33 with
          | zero => intro a0 w v g ha hcp0 hm_33; exact absurd hm_33 (Nat.not_lt_zero _)
          | succ n_33 ih_33 =>
            intro a0 w v g ha hcp0 hm_33
            refine g_iload F 4 rfl dX11_closest_33 ?_
            refine g_aload_n F 0 rfl dX11_closest_35 ?_
            refine g_get F 11 0 0 inX11 rfl rfl (by decide) tw_fl_X11_50 rfl dX11_closest_36 ?_
            refine n_icmp_ge F 120 dX11_closest_39 (by decide) (by omega) (by omega) (fun c_39 => ?_) (fun c_39 => ?_)
            · have hcp2 : CPP (dsN kd L pl tN) I n 0 w v := by rw [show n = a0 by omega]; exact hcp0
              obtain ⟨p1, q1, rfl, rfl, hp3, hp4, hp5, -, hp7⟩ := hcp2.resolve_left (fun z => by
                  obtain ⟨x1, y1, h1, h2, h3, h4⟩ := cI_two n (by omega)
                  exact z.2 x1 y1 (Or.inl (by omega)) h1 h3 h4)
              have hq60 := hI60 q1 hp5
              have hclo : CLO (dsN kd L pl tN) I p1 q1 := ⟨hp4, hp5, hp3, fun u9 v9 a1 a2 a3 => hp7 u9 v9 (Or.inl (hZ.2 u9 a1)) a3 a1 a2⟩
              refine g_iload_n F 1 rfl dX11_closest_120 ?_
              refine n_if_ne F 128 dX11_closest_121 (by decide) (by omega) (fun c_121 => ?_) (fun c_121 => ?_)
              · refine g_iload_n F 1 rfl dX11_closest_128 ?_
                refine g_iconst F (nI 1) (by decide) dX11_closest_129 ?_
                refine n_icmp_ne F 137 dX11_closest_130 (by decide) (by omega) (by omega) (fun c_130 => ?_) (fun c_130 => ?_)
                · refine g_aload_n F 0 rfl dX11_closest_137 ?_
                  refine g_iload_n F 2 rfl dX11_closest_138 ?_
                  refine g_iload_n F 3 rfl dX11_closest_139 ?_
                  refine g_cVi F (wr := []) [] (c_X11_far E A ln pl td zi rf rg g bs2_18 zt al pp pw ph n kd rk ps L tN I p1 q1 (hK) (hZ) (by omega) (by omega)) (gi_V tw_ml_X11_86 tw_im_X11_far tw_se_X11_far tw_in_X11 tw_co_X11_far) 2 rfl (by decide) ⟨rfl, rfl, by decide, by decide, Nat.zero_le _, Nat.zero_le _⟩ 11 0 rfl rfl [0, 1, 2, 3, 4, 5, 6, 7, 8, 9, 10, 11, 12, 13] [] [0, 1, 2, 3, 4, 5, 6, 7, 8, 9, 10, 11, 12, 13] (fun u => [ob (A 0) 11 [.int (nI n), .int (nI kd), .ref (A 1), .ref (A 2), .ref (A 3), .ref (A 4), .int (nI rk), .ref (A 5), .ref (A 6), .ref (A 7), .ref (A 8), .ref (A 9), .ref (A 10), .ref (A 11), .int ps, .ref (A 12), .ref (A 13)], ia E (A 1) 60 ln, ia E (A 2) 480 pl, ia E (A 3) 3600 td, za E (A 4) 60 zi, ia E (A 5) 60 rf, ia E (A 6) 60 rg, ia E (A 7) 81 u, ia E (A 8) 3 bs2_18, za E (A 9) 60 zt, ia E (A 10) 3600 al, ia E (A 11) 60 pp, ia E (A 12) 60 pw, ia E (A 13) 60 ph]) rfl rfl (by decide) (fun _ => rfl) rfl (Nat.le_of_ble_eq_true rfl) dX11_closest_140 (fun r_140 u hu_140 => ?_)
                  revert hu_140; revert u; intro co_140 hu_140
                  subst hu_140
                  exact R _ ((co_140, bs2_18)) _ _ dX11_closest_143 (by (try dsimp only); exact (Or.inl ⟨w0, hw0, rfl, by omega, hlw, p1, q1, hclo, by rw [if_neg c_121, if_neg c_130]⟩))
                · refine g_iload_n F 3 rfl dX11_closest_133 ?_
                  refine g_goto F 143 dX11_closest_134 (by decide) ?_
                  exact R _ ((g, bs2_18)) _ _ dX11_closest_143 (by (try dsimp only); exact (Or.inl ⟨w0, hw0, rfl, by omega, hlw, p1, q1, hclo, by rw [if_neg c_121, if_pos c_130]⟩))
              · refine g_iload_n F 2 rfl dX11_closest_124 ?_
                refine g_goto F 143 dX11_closest_125 (by decide) ?_
                exact R _ ((g, bs2_18)) _ _ dX11_closest_143 (by (try dsimp only); exact (Or.inl ⟨w0, hw0, rfl, by omega, hlw, p1, q1, hclo, by rw [if_pos c_121]⟩))
            · refine g_iload F 4 rfl dX11_closest_42 ?_
              refine g_iconst F (nI 1) (by decide) dX11_closest_44 ?_
              refine n_add F dX11_closest_45 ?_
              refine g_istore F 5 [(0, .ref (A 0)), (1, .int (nI w0)), (2, .int w), (3, .int v), (4, .int (nI a0)), (5, .int (nI (a0 + 1)))] [1, 2, 3, 4, 5, 0] dX11_closest_46 (by decide) rfl ?_
              have lp_48 : ∀ (n_48 : Nat) (b0 : Nat) (w : Int32) (v : Int32) (g2 : Nat → Int32), (a0 < b0 ∧ b0 ≤ n) → (CPP (dsN kd L pl tN) I a0 b0 w v) → n - b0 < n_48 → GW E X 0 0 [ob (A 0) 11 [.int (nI n), .int (nI kd), .ref (A 1), .ref (A 2), .ref (A 3), .ref (A 4), .int (nI rk), .ref (A 5), .ref (A 6), .ref (A 7), .ref (A 8), .ref (A 9), .ref (A 10), .ref (A 11), .int ps, .ref (A 12), .ref (A 13)], ia E (A 1) 60 ln, ia E (A 2) 480 pl, ia E (A 3) 3600 td, za E (A 4) 60 zi, ia E (A 5) 60 rf, ia E (A 6) 60 rg, ia E (A 7) 81 g2, ia E (A 8) 3 bs2_18, za E (A 9) 60 zt, ia E (A 10) 3600 al, ia E (A 11) 60 pp, ia E (A 12) 60 pw, ia E (A 13) 60 ph] [(0, .ref (A 0)), (1, .int (nI w0)), (2, .int w), (3, .int v), (4, .int (nI a0)), (5, .int (nI b0))] 48 [] := by
                intro n_48
                induction n_48 with
                | zero => intro b0 w v g2 hb hcp hm_48; exact absurd hm_48 (Nat.not_lt_zero _)
                | succ n_48 ih_48 =>
                  intro b0 w v g2 hb hcp hm_48
                  refine g_iload F 5 rfl dX11_closest_48 ?_
                  refine g_aload_n F 0 rfl dX11_closest_50 ?_
                  refine g_get F 11 0 0 inX11 rfl rfl (by decide) tw_fl_X11_50 rfl dX11_closest_51 ?_
                  refine n_icmp_ge F 114 dX11_closest_54 (by decide) (by omega) (by omega) (fun c_54 => ?_) (fun c_54 => ?_)
                  · refine g_iinc F (nI (a0 + 1)) 4 4 [(0, .ref (A 0)), (1, .int (nI w0)), (2, .int w), (3, .int v), (4, .int (nI (a0 + 1))), (5, .int (nI b0))] [1, 2, 3, 4, 0, 5] dX11_closest_114 rfl (n_inc a0) (by decide) rfl ?_
                    refine g_goto F 33 dX11_closest_117 (by decide) ?_
                    refine g_lv [0, 1, 2, 3, 4] [(0, .ref (A 0)), (1, .int (nI w0)), (2, .int w), (3, .int v), (4, .int (nI (a0 + 1)))] rfl ?_
                    exact ih_33 (a0 + 1) w v g2 (by omega) (cp_conv hcp (fun p q hpq hp hq => by have := hZ.2 q hq; unfold DNE; omega)) (by omega)
                  · refine g_aload_n F 0 rfl dX11_closest_57 ?_
                    refine g_get F 11 0 5 inX11 rfl rfl (by decide) tw_fl_X11_19 rfl dX11_closest_58 ?_
                    refine g_iload F 4 rfl dX11_closest_61 ?_
                    refine g_zald F 4 rfl (by omega) (by decide) dX11_closest_63 ?_
                    refine g_top (bI (I a0)) (hZ.1 a0 (by omega)) ?_
                    refine b_if_eq F 108 dX11_closest_64 (by decide) (fun c_64 => ?_) (fun c_64 => ?_)
                    · refine g_iinc F (nI (b0 + 1)) 5 5 [(0, .ref (A 0)), (1, .int (nI w0)), (2, .int w), (3, .int v), (4, .int (nI a0)), (5, .int (nI (b0 + 1)))] [1, 2, 3, 4, 5, 0] dX11_closest_108 rfl (n_inc b0) (by decide) rfl ?_
                      refine g_goto F 48 dX11_closest_111 (by decide) ?_
                      exact ih_48 (b0 + 1) w v g2 (by omega) (cp_skip hcp (fun z _ => by rw [c_64] at z; cases z)) (by omega)
                    · refine g_aload_n F 0 rfl dX11_closest_67 ?_
                      refine g_get F 11 0 5 inX11 rfl rfl (by decide) tw_fl_X11_19 rfl dX11_closest_68 ?_
                      refine g_iload F 5 rfl dX11_closest_71 ?_
                      refine g_zald F 4 rfl (by omega) (by decide) dX11_closest_73 ?_
                      refine g_top (bI (I b0)) (hZ.1 b0 (by omega)) ?_
                      refine b_if_eq F 108 dX11_closest_74 (by decide) (fun c_74 => ?_) (fun c_74 => ?_)
                      · refine g_iinc F (nI (b0 + 1)) 5 5 [(0, .ref (A 0)), (1, .int (nI w0)), (2, .int w), (3, .int v), (4, .int (nI a0)), (5, .int (nI (b0 + 1)))] [1, 2, 3, 4, 5, 0] dX11_closest_108 rfl (n_inc b0) (by decide) rfl ?_
                        refine g_goto F 48 dX11_closest_111 (by decide) ?_
                        exact ih_48 (b0 + 1) w v g2 (by omega) (cp_skip hcp (fun _ z => by rw [c_74] at z; cases z)) (by omega)
                      · refine g_iload_n F 2 rfl dX11_closest_77 ?_
                        refine g_iconst F (-1) (by decide) dX11_closest_78 ?_
                        refine g_icmp_eq F 102 dX11_closest_79 (by decide) (fun c_79 => ?_) (fun c_79 => ?_)
                        · refine g_iload F 4 rfl dX11_closest_102 ?_
                          refine g_istore_n F 2 [(0, .ref (A 0)), (1, .int (nI w0)), (2, .int (nI a0)), (3, .int v), (4, .int (nI a0)), (5, .int (nI b0))] [1, 2, 0, 3, 4, 5] dX11_closest_104 rfl (by decide) rfl ?_
                          refine g_iload F 5 rfl dX11_closest_105 ?_
                          refine g_istore_n F 3 [(0, .ref (A 0)), (1, .int (nI w0)), (2, .int (nI a0)), (3, .int (nI b0)), (4, .int (nI a0)), (5, .int (nI b0))] [1, 2, 3, 0, 4, 5] dX11_closest_107 rfl (by decide) rfl ?_
                          refine g_iinc F (nI (b0 + 1)) 5 5 [(0, .ref (A 0)), (1, .int (nI w0)), (2, .int (nI a0)), (3, .int (nI b0)), (4, .int (nI a0)), (5, .int (nI (b0 + 1)))] [1, 2, 3, 4, 5, 0] dX11_closest_108 rfl (n_inc b0) (by decide) rfl ?_
                          refine g_goto F 48 dX11_closest_111 (by decide) ?_
                          exact ih_48 (b0 + 1) (nI a0) (nI b0) g2 (by omega) (cp_new hcp c_79 c_64 c_74 (by omega) hI60) (by omega)
                        · obtain ⟨p1, q1, rfl, rfl, hp3, hp4, hp5, hp6, hp7⟩ := hcp.resolve_left (fun z => c_79 z.1)
                          have hp60 := hI60 p1 hp4
                          have hq60 := hI60 q1 hp5
                          have ha60 := hI60 a0 c_64
                          have hb60 := hI60 b0 c_74
                          have d1 := ds_le (kd := kd) (a := a0) (b := b0) hK.2.2.1 hK.2.2.2.1 hK.2.2.2.2.1 (by omega) (by omega)
                          have d2 := ds_le (kd := kd) (a := p1) (b := q1) hK.2.2.1 hK.2.2.2.1 hK.2.2.2.2.1 (by omega) (by omega)
                          refine g_aload_n F 0 rfl dX11_closest_82 ?_
                          refine g_iload F 4 rfl dX11_closest_83 ?_
                          refine g_iload F 5 rfl dX11_closest_85 ?_
                          refine g_cVi F (wr := []) [] (c_X11_far E A ln pl td zi rf rg g2 bs2_18 zt al pp pw ph n kd rk ps L tN I a0 b0 (hK) (hZ) (by omega) (by omega)) (gi_V tw_ml_X11_86 tw_im_X11_far tw_se_X11_far tw_in_X11 tw_co_X11_far) 2 rfl (by decide) ⟨rfl, rfl, by decide, by decide, Nat.zero_le _, Nat.zero_le _⟩ 11 0 rfl rfl [0, 1, 2, 3, 4, 5, 6, 7, 8, 9, 10, 11, 12, 13] [] [0, 1, 2, 3, 4, 5, 6, 7, 8, 9, 10, 11, 12, 13] (fun u => [ob (A 0) 11 [.int (nI n), .int (nI kd), .ref (A 1), .ref (A 2), .ref (A 3), .ref (A 4), .int (nI rk), .ref (A 5), .ref (A 6), .ref (A 7), .ref (A 8), .ref (A 9), .ref (A 10), .ref (A 11), .int ps, .ref (A 12), .ref (A 13)], ia E (A 1) 60 ln, ia E (A 2) 480 pl, ia E (A 3) 3600 td, za E (A 4) 60 zi, ia E (A 5) 60 rf, ia E (A 6) 60 rg, ia E (A 7) 81 u, ia E (A 8) 3 bs2_18, za E (A 9) 60 zt, ia E (A 10) 3600 al, ia E (A 11) 60 pp, ia E (A 12) 60 pw, ia E (A 13) 60 ph]) rfl rfl (by decide) (fun _ => rfl) rfl (Nat.le_of_ble_eq_true rfl) dX11_closest_87 (fun r_87 u hu_87 => ?_)
                          revert hu_87; revert u; intro co_87 hu_87
                          subst hu_87
                          refine g_aload_n F 0 rfl dX11_closest_90 ?_
                          refine g_iload_n F 2 rfl dX11_closest_91 ?_
                          refine g_iload_n F 3 rfl dX11_closest_92 ?_
                          refine g_cVi F (wr := []) [.int (nI (dsN kd L pl tN a0 b0))] (c_X11_far E A ln pl td zi rf rg co_87 bs2_18 zt al pp pw ph n kd rk ps L tN I p1 q1 (hK) (hZ) (by omega) (by omega)) (gi_V tw_ml_X11_86 tw_im_X11_far tw_se_X11_far tw_in_X11 tw_co_X11_far) 2 rfl (by decide) ⟨rfl, rfl, by decide, by decide, Nat.zero_le _, Nat.zero_le _⟩ 11 0 rfl rfl [0, 1, 2, 3, 4, 5, 6, 7, 8, 9, 10, 11, 12, 13] [] [0, 1, 2, 3, 4, 5, 6, 7, 8, 9, 10, 11, 12, 13] (fun u => [ob (A 0) 11 [.int (nI n), .int (nI kd), .ref (A 1), .ref (A 2), .ref (A 3), .ref (A 4), .int (nI rk), .ref (A 5), .ref (A 6), .ref (A 7), .ref (A 8), .ref (A 9), .ref (A 10), .ref (A 11), .int ps, .ref (A 12), .ref (A 13)], ia E (A 1) 60 ln, ia E (A 2) 480 pl, ia E (A 3) 3600 td, za E (A 4) 60 zi, ia E (A 5) 60 rf, ia E (A 6) 60 rg, ia E (A 7) 81 u, ia E (A 8) 3 bs2_18, za E (A 9) 60 zt, ia E (A 10) 3600 al, ia E (A 11) 60 pp, ia E (A 12) 60 pw, ia E (A 13) 60 ph]) rfl rfl (by decide) (fun _ => rfl) rfl (Nat.le_of_ble_eq_true rfl) dX11_closest_93 (fun r_93 u hu_93 => ?_)
                          revert hu_93; revert u; intro co_93 hu_93
                          subst hu_93
                          refine n_icmp_lt F 102 dX11_closest_96 (by decide) (by omega) (by omega) (fun c_96 => ?_) (fun c_96 => ?_)
                          · refine g_iload F 4 rfl dX11_closest_102 ?_
                            refine g_istore_n F 2 [(0, .ref (A 0)), (1, .int (nI w0)), (2, .int (nI a0)), (3, .int (nI q1)), (4, .int (nI a0)), (5, .int (nI b0))] [1, 2, 0, 3, 4, 5] dX11_closest_104 rfl (by decide) rfl ?_
                            refine g_iload F 5 rfl dX11_closest_105 ?_
                            refine g_istore_n F 3 [(0, .ref (A 0)), (1, .int (nI w0)), (2, .int (nI a0)), (3, .int (nI b0)), (4, .int (nI a0)), (5, .int (nI b0))] [1, 2, 3, 0, 4, 5] dX11_closest_107 rfl (by decide) rfl ?_
                            refine g_iinc F (nI (b0 + 1)) 5 5 [(0, .ref (A 0)), (1, .int (nI w0)), (2, .int (nI a0)), (3, .int (nI b0)), (4, .int (nI a0)), (5, .int (nI (b0 + 1)))] [1, 2, 3, 4, 5, 0] dX11_closest_108 rfl (n_inc b0) (by decide) rfl ?_
                            refine g_goto F 48 dX11_closest_111 (by decide) ?_
                            exact ih_48 (b0 + 1) (nI a0) (nI b0) co_93 (by omega) (cp_take hI60 (by omega) c_64 c_74 hp3 hp5 hp7 c_96) (by omega)
                          · refine g_goto F 108 dX11_closest_99 (by decide) ?_
                            refine g_iinc F (nI (b0 + 1)) 5 5 [(0, .ref (A 0)), (1, .int (nI w0)), (2, .int (nI p1)), (3, .int (nI q1)), (4, .int (nI a0)), (5, .int (nI (b0 + 1)))] [1, 2, 3, 4, 5, 0] dX11_closest_108 rfl (n_inc b0) (by decide) rfl ?_
                            refine g_goto F 48 dX11_closest_111 (by decide) ?_
                            exact ih_48 (b0 + 1) (nI p1) (nI q1) co_93 (by omega) (cp_keep hI60 hp3 hp4 hp5 hp6 hp7 c_96) (by omega)
              exact lp_48 _ (a0 + 1) w v g (by omega) (cp_conv hcp0 (fun p q hpq hp hq => by unfold DNE; omega)) (Nat.lt_succ_self _)
        exact lp_33 _ 0 (-1) (-1) co (by omega) (Or.inl ⟨rfl, fun p q z => by unfold DNE at z; omega⟩) (Nat.lt_succ_self _)
      · refine g_if_ne F 26 dX11_closest_21 (by decide) (fun h => absurd (by decide) h) (fun _ => ?_)
        refine g_iconst F (-1) (by decide) dX11_closest_24 ?_
        exact R _ ((co, bs2_18)) _ _ dX11_closest_25 (by (try dsimp only); exact (Or.inr ⟨Or.inr (Or.inr (lwk_no hk5 htb)), rfl⟩))
  · refine g_if_eq F 24 dX11_closest_6 (by decide) (fun _ => ?_) (fun h => absurd (by decide) h)
    refine g_iconst F (-1) (by decide) dX11_closest_24 ?_
    exact R _ ((co, bs)) _ _ dX11_closest_25 (by (try dsimp only); exact (Or.inr ⟨Or.inl (lie_n (by decide) l0_3), rfl⟩))

set_option maxHeartbeats 4000000 in
set_option maxRecDepth 100000 in
theorem c_X11_fromResults (E : Ev) (A : Nat → Nat) (ln : Nat → Int32) (pl : Nat → Int32) (td : Nat → Int32) (zi : Nat → Int32) (rf : Nat → Int32) (rg : Nat → Int32) (co : Nat → Int32) (bs : Nat → Int32) (zt : Nat → Int32) (al : Nat → Int32) (pp : Nat → Int32) (pw : Nat → Int32) (ph : Nat → Int32) (n : Nat) (kd : Nat) (rk : Nat) (ps : Int32) (L : Nat → Nat) (tN : Nat → Nat) (I : Nat → Bool) (x0 : Nat) (rt : Nat → Nat) (hK : MDK n kd L ln pl tN td) (hZ : ZI n zi I) (hx : x0 < 60) (hrk : rk ≤ 60) (hrt : ∀ i, i < rk → rf i = nI (rt i) ∧ rt i < 60) : CTi E yX11_fromResults (wq yX11_fromResults cX11_fromResults 4 (some .int)) (rmk 3 75) [.ref (A 0), .int (nI x0)] [ob (A 0) 11 [.int (nI n), .int (nI kd), .ref (A 1), .ref (A 2), .ref (A 3), .ref (A 4), .int (nI rk), .ref (A 5), .ref (A 6), .ref (A 7), .ref (A 8), .ref (A 9), .ref (A 10), .ref (A 11), .int ps, .ref (A 12), .ref (A 13)], ia E (A 1) 60 ln, ia E (A 2) 480 pl, ia E (A 3) 3600 td, za E (A 4) 60 zi, ia E (A 5) 60 rf, ia E (A 6) 60 rg, ia E (A 7) 81 co, ia E (A 8) 3 bs, za E (A 9) 60 zt, ia E (A 10) 3600 al, ia E (A 11) 60 pp, ia E (A 12) 60 pw, ia E (A 13) 60 ph] (fun (r : Int32) (u : (Nat → Int32)) => r = nI (mrN (dsN kd L pl tN) x0 rt rk)) (fun (u : (Nat → Int32)) => [ob (A 0) 11 [.int (nI n), .int (nI kd), .ref (A 1), .ref (A 2), .ref (A 3), .ref (A 4), .int (nI rk), .ref (A 5), .ref (A 6), .ref (A 7), .ref (A 8), .ref (A 9), .ref (A 10), .ref (A 11), .int ps, .ref (A 12), .ref (A 13)], ia E (A 1) 60 ln, ia E (A 2) 480 pl, ia E (A 3) 3600 td, za E (A 4) 60 zi, ia E (A 5) 60 rf, ia E (A 6) 60 rg, ia E (A 7) 81 u, ia E (A 8) 3 bs, za E (A 9) 60 zt, ia E (A 10) 3600 al, ia E (A 11) 60 pp, ia E (A 12) 60 pw, ia E (A 13) 60 ph]) := by
  refine CTi.of (by decide) (Nat.le_of_ble_eq_true rfl) (fun X F R => ?_)
  refine g_lv [0, 1] [(0, .ref (A 0)), (1, .int (nI x0))] rfl ?_
  have hn60 := hK.1
  refine g_ldc F tw_cn_X11_107 dX11_fromResults_0 ?_
  refine g_top (nI 2147483647) (by decide) ?_
  refine g_istore_n F 2 [(0, .ref (A 0)), (1, .int (nI x0)), (2, .int (nI 2147483647))] [1, 2, 0] dX11_fromResults_2 rfl (by decide) rfl ?_
  refine g_iconst F (nI 0) (by decide) dX11_fromResults_3 ?_
  refine g_istore_n F 3 [(0, .ref (A 0)), (1, .int (nI x0)), (2, .int (nI 2147483647)), (3, .int (nI 0))] [1, 2, 3, 0] dX11_fromResults_4 rfl (by decide) rfl ?_
  have lp_5 : ∀ (n_5 : Nat) (i : Nat) (g : Nat → Int32), (i ≤ rk) → rk - i < n_5 → GW E X 0 0 [ob (A 0) 11 [.int (nI n), .int (nI kd), .ref (A 1), .ref (A 2), .ref (A 3), .ref (A 4), .int (nI rk), .ref (A 5), .ref (A 6), .ref (A 7), .ref (A 8), .ref (A 9), .ref (A 10), .ref (A 11), .int ps, .ref (A 12), .ref (A 13)], ia E (A 1) 60 ln, ia E (A 2) 480 pl, ia E (A 3) 3600 td, za E (A 4) 60 zi, ia E (A 5) 60 rf, ia E (A 6) 60 rg, ia E (A 7) 81 g, ia E (A 8) 3 bs, za E (A 9) 60 zt, ia E (A 10) 3600 al, ia E (A 11) 60 pp, ia E (A 12) 60 pw, ia E (A 13) 60 ph] [(0, .ref (A 0)), (1, .int (nI x0)), (2, .int (nI (mrN (dsN kd L pl tN) x0 rt i))), (3, .int (nI i))] 5 [] := by
    intro n_5
    induction n_5 with
    | zero => intro i g hi hm_5; exact absurd hm_5 (Nat.not_lt_zero _)
    | succ n_5 ih_5 =>
      intro i g hi hm_5
      refine g_iload_n F 3 rfl dX11_fromResults_5 ?_
      refine g_aload_n F 0 rfl dX11_fromResults_6 ?_
      refine g_get F 11 0 6 inX11 rfl rfl (by decide) tw_fl_X11_93 rfl dX11_fromResults_7 ?_
      refine n_icmp_ge F 35 dX11_fromResults_10 (by decide) (by omega) (by omega) (fun c_10 => ?_) (fun c_10 => ?_)
      · refine g_iload_n F 2 rfl dX11_fromResults_35 ?_
        exact R _ g _ _ dX11_fromResults_36 (by rw [show i = rk by omega])
      · refine g_iload_n F 2 rfl dX11_fromResults_13 ?_
        refine g_aload_n F 0 rfl dX11_fromResults_14 ?_
        refine g_iload_n F 1 rfl dX11_fromResults_15 ?_
        refine g_aload_n F 0 rfl dX11_fromResults_16 ?_
        refine g_get F 11 0 7 inX11 rfl rfl (by decide) tw_fl_X11_23 rfl dX11_fromResults_17 ?_
        refine g_iload_n F 3 rfl dX11_fromResults_20 ?_
        refine g_iald F 5 rfl (by omega) (by decide) dX11_fromResults_21 ?_
        refine g_top (nI (rt i)) ((hrt i (by omega)).1) ?_
        refine g_cVi F (wr := []) [.int (nI (mrN (dsN kd L pl tN) x0 rt i))] (c_X11_far E A ln pl td zi rf rg g bs zt al pp pw ph n kd rk ps L tN I x0 (rt i) (hK) (hZ) (hx) ((hrt i (by omega)).2)) (gi_V tw_ml_X11_86 tw_im_X11_far tw_se_X11_far tw_in_X11 tw_co_X11_far) 2 rfl (by decide) ⟨rfl, rfl, by decide, by decide, Nat.zero_le _, Nat.zero_le _⟩ 11 0 rfl rfl [0, 1, 2, 3, 4, 5, 6, 7, 8, 9, 10, 11, 12, 13] [] [0, 1, 2, 3, 4, 5, 6, 7, 8, 9, 10, 11, 12, 13] (fun u => [ob (A 0) 11 [.int (nI n), .int (nI kd), .ref (A 1), .ref (A 2), .ref (A 3), .ref (A 4), .int (nI rk), .ref (A 5), .ref (A 6), .ref (A 7), .ref (A 8), .ref (A 9), .ref (A 10), .ref (A 11), .int ps, .ref (A 12), .ref (A 13)], ia E (A 1) 60 ln, ia E (A 2) 480 pl, ia E (A 3) 3600 td, za E (A 4) 60 zi, ia E (A 5) 60 rf, ia E (A 6) 60 rg, ia E (A 7) 81 u, ia E (A 8) 3 bs, za E (A 9) 60 zt, ia E (A 10) 3600 al, ia E (A 11) 60 pp, ia E (A 12) 60 pw, ia E (A 13) 60 ph]) rfl rfl (by decide) (fun _ => rfl) rfl (Nat.le_of_ble_eq_true rfl) dX11_fromResults_22 (fun r_22 u hu_22 => ?_)
        revert hu_22; revert u; intro co_22 hu_22
        subst hu_22
        refine g_rSi F (wr := [ob (A 0) 11 [.int (nI n), .int (nI kd), .ref (A 1), .ref (A 2), .ref (A 3), .ref (A 4), .int (nI rk), .ref (A 5), .ref (A 6), .ref (A 7), .ref (A 8), .ref (A 9), .ref (A 10), .ref (A 11), .int ps, .ref (A 12), .ref (A 13)], ia E (A 1) 60 ln, ia E (A 2) 480 pl, ia E (A 3) 3600 td, za E (A 4) 60 zi, ia E (A 5) 60 rf, ia E (A 6) 60 rg, ia E (A 7) 81 co_22, ia E (A 8) 3 bs, za E (A 9) 60 zt, ia E (A 10) 3600 al, ia E (A 11) 60 pp, ia E (A 12) 60 pw, ia E (A 13) 60 ph]) [] (c_X11_least E (mrN (dsN kd L pl tN) x0 rt i) (dsN kd L pl tN x0 (rt i)) (by have := mr_le (dsN kd L pl tN) x0 rt i; omega) (by have := ds_le (kd := kd) (a := x0) (b := rt i) hK.2.2.1 hK.2.2.2.1 hK.2.2.2.2.1 hx (hrt i (by omega)).2; omega)) ⟨tw_ml_X11_66, tw_sm_X11_least, tw_in_X11, tw_co_X11_least⟩ 2 rfl (by decide) ⟨rfl, rfl, by decide, by decide, Nat.zero_le _, Nat.zero_le _⟩ [] [0, 1, 2, 3, 4, 5, 6, 7, 8, 9, 10, 11, 12, 13] [0, 1, 2, 3, 4, 5, 6, 7, 8, 9, 10, 11, 12, 13] rfl rfl (by decide) rfl rfl (Nat.le_of_ble_eq_true rfl) dX11_fromResults_25 ?_
        refine g_top (nI (mrN (dsN kd L pl tN) x0 rt (i + 1))) (rfl) ?_
        refine g_istore_n F 2 [(0, .ref (A 0)), (1, .int (nI x0)), (2, .int (nI (mrN (dsN kd L pl tN) x0 rt (i + 1)))), (3, .int (nI i))] [1, 2, 0, 3] dX11_fromResults_28 rfl (by decide) rfl ?_
        refine g_iinc F (nI (i + 1)) 3 3 [(0, .ref (A 0)), (1, .int (nI x0)), (2, .int (nI (mrN (dsN kd L pl tN) x0 rt (i + 1)))), (3, .int (nI (i + 1)))] [1, 2, 3, 0] dX11_fromResults_29 rfl (n_inc i) (by decide) rfl ?_
        refine g_goto F 5 dX11_fromResults_32 (by decide) ?_
        exact ih_5 (i + 1) co_22 (by omega) (by omega)
  exact lp_5 _ 0 co (by omega) (Nat.lt_succ_self _)

set_option maxHeartbeats 4000000 in
set_option maxRecDepth 100000 in
theorem c_X11_radius (E : Ev) (A : Nat → Nat) (ln : Nat → Int32) (pl : Nat → Int32) (td : Nat → Int32) (zi : Nat → Int32) (rf : Nat → Int32) (rg : Nat → Int32) (co : Nat → Int32) (bs : Nat → Int32) (zt : Nat → Int32) (al : Nat → Int32) (pp : Nat → Int32) (pw : Nat → Int32) (ph : Nat → Int32) (n : Nat) (kd : Nat) (rk : Nat) (ps : Int32) (L : Nat → Nat) (tN : Nat → Nat) (I : Nat → Bool) (rt : Nat → Nat) (hK : MDK n kd L ln pl tN td) (hZ : ZI n zi I) (hrk : rk ≤ 60) (hrt : ∀ i, i < rk → rf i = nI (rt i) ∧ rt i < 60) : CTi E yX11_radius (wq yX11_radius cX11_radius 4 (some .int)) (rmk 4 98) [.ref (A 0)] [ob (A 0) 11 [.int (nI n), .int (nI kd), .ref (A 1), .ref (A 2), .ref (A 3), .ref (A 4), .int (nI rk), .ref (A 5), .ref (A 6), .ref (A 7), .ref (A 8), .ref (A 9), .ref (A 10), .ref (A 11), .int ps, .ref (A 12), .ref (A 13)], ia E (A 1) 60 ln, ia E (A 2) 480 pl, ia E (A 3) 3600 td, za E (A 4) 60 zi, ia E (A 5) 60 rf, ia E (A 6) 60 rg, ia E (A 7) 81 co, ia E (A 8) 3 bs, za E (A 9) 60 zt, ia E (A 10) 3600 al, ia E (A 11) 60 pp, ia E (A 12) 60 pw, ia E (A 13) 60 ph] (fun (r : Int32) (u : (Nat → Int32)) => ∃ m, r = nI m ∧ (∀ t, I t = true → mrN (dsN kd L pl tN) t rt rk ≤ m) ∧ (m = 0 ∨ ∃ t, I t = true ∧ mrN (dsN kd L pl tN) t rt rk = m)) (fun (u : (Nat → Int32)) => [ob (A 0) 11 [.int (nI n), .int (nI kd), .ref (A 1), .ref (A 2), .ref (A 3), .ref (A 4), .int (nI rk), .ref (A 5), .ref (A 6), .ref (A 7), .ref (A 8), .ref (A 9), .ref (A 10), .ref (A 11), .int ps, .ref (A 12), .ref (A 13)], ia E (A 1) 60 ln, ia E (A 2) 480 pl, ia E (A 3) 3600 td, za E (A 4) 60 zi, ia E (A 5) 60 rf, ia E (A 6) 60 rg, ia E (A 7) 81 u, ia E (A 8) 3 bs, za E (A 9) 60 zt, ia E (A 10) 3600 al, ia E (A 11) 60 pp, ia E (A 12) 60 pw, ia E (A 13) 60 ph]) := by
  refine CTi.of (by decide) (Nat.le_of_ble_eq_true rfl) (fun X F R => ?_)
  refine g_lv [0] [(0, .ref (A 0))] rfl ?_
  have hn60 := hK.1
  refine g_iconst F (nI 0) (by decide) dX11_radius_0 ?_
  refine g_istore_n F 1 [(0, .ref (A 0)), (1, .int (nI 0))] [1, 0] dX11_radius_1 rfl (by decide) rfl ?_
  refine g_iconst F (nI 0) (by decide) dX11_radius_2 ?_
  refine g_istore_n F 2 [(0, .ref (A 0)), (1, .int (nI 0)), (2, .int (nI 0))] [1, 2, 0] dX11_radius_3 rfl (by decide) rfl ?_
  have lp_4 : ∀ (n_4 : Nat) (i : Nat) (m : Nat) (g : Nat → Int32), (i ≤ n) → (m ≤ 2147483647) → (∀ t, t < i → I t = true → mrN (dsN kd L pl tN) t rt rk ≤ m) → (m = 0 ∨ ∃ t, I t = true ∧ mrN (dsN kd L pl tN) t rt rk = m) → n - i < n_4 → GW E X 0 0 [ob (A 0) 11 [.int (nI n), .int (nI kd), .ref (A 1), .ref (A 2), .ref (A 3), .ref (A 4), .int (nI rk), .ref (A 5), .ref (A 6), .ref (A 7), .ref (A 8), .ref (A 9), .ref (A 10), .ref (A 11), .int ps, .ref (A 12), .ref (A 13)], ia E (A 1) 60 ln, ia E (A 2) 480 pl, ia E (A 3) 3600 td, za E (A 4) 60 zi, ia E (A 5) 60 rf, ia E (A 6) 60 rg, ia E (A 7) 81 g, ia E (A 8) 3 bs, za E (A 9) 60 zt, ia E (A 10) 3600 al, ia E (A 11) 60 pp, ia E (A 12) 60 pw, ia E (A 13) 60 ph] [(0, .ref (A 0)), (1, .int (nI m)), (2, .int (nI i))] 4 [] := by
    intro n_4
    induction n_4 with
    | zero => intro i m g hi hm0 hm1 hm2 hm_4; exact absurd hm_4 (Nat.not_lt_zero _)
    | succ n_4 ih_4 =>
      intro i m g hi hm0 hm1 hm2 hm_4
      refine g_iload_n F 2 rfl dX11_radius_4 ?_
      refine g_aload_n F 0 rfl dX11_radius_5 ?_
      refine g_get F 11 0 0 inX11 rfl rfl (by decide) tw_fl_X11_50 rfl dX11_radius_6 ?_
      refine n_icmp_ge F 48 dX11_radius_9 (by decide) (by omega) (by omega) (fun c_9 => ?_) (fun c_9 => ?_)
      · refine g_iload_n F 1 rfl dX11_radius_48 ?_
        exact R _ g _ _ dX11_radius_49 (⟨m, rfl, fun t ht => hm1 t (by have := hZ.2 t ht; omega) ht, hm2⟩)
      · refine g_aload_n F 0 rfl dX11_radius_12 ?_
        refine g_get F 11 0 5 inX11 rfl rfl (by decide) tw_fl_X11_19 rfl dX11_radius_13 ?_
        refine g_iload_n F 2 rfl dX11_radius_16 ?_
        refine g_zald F 4 rfl (by omega) (by decide) dX11_radius_17 ?_
        refine g_top (bI (I i)) (hZ.1 i (by omega)) ?_
        refine b_if_eq F 29 dX11_radius_18 (by decide) (fun c_18 => ?_) (fun c_18 => ?_)
        · refine g_iconst F (nI 0) (by decide) dX11_radius_29 ?_
          refine g_istore_n F 3 [(0, .ref (A 0)), (1, .int (nI m)), (2, .int (nI i)), (3, .int (nI 0))] [1, 2, 3, 0] dX11_radius_30 rfl (by decide) rfl ?_
          have hmr := mr_le (dsN kd L pl tN) i rt rk
          refine g_iload_n F 3 rfl dX11_radius_31 ?_
          refine g_iload_n F 1 rfl dX11_radius_32 ?_
          refine n_icmp_le F 40 dX11_radius_33 (by decide) (by omega) (by omega) (fun c_33 => ?_) (fun c_33 => ?_)
          · refine g_iload_n F 1 rfl dX11_radius_40 ?_
            refine g_istore_n F 1 [(0, .ref (A 0)), (1, .int (nI m)), (2, .int (nI i)), (3, .int (nI 0))] [1, 0, 2, 3] dX11_radius_41 rfl (by decide) rfl ?_
            refine g_iinc F (nI (i + 1)) 2 2 [(0, .ref (A 0)), (1, .int (nI m)), (2, .int (nI (i + 1))), (3, .int (nI 0))] [1, 2, 0, 3] dX11_radius_42 rfl (n_inc i) (by decide) rfl ?_
            refine g_goto F 4 dX11_radius_45 (by decide) ?_
            refine g_lv [0, 1, 2] [(0, .ref (A 0)), (1, .int (nI m)), (2, .int (nI (i + 1)))] rfl ?_
            exact ih_4 (i + 1) m g (by omega) (hm0) (lt_s hm1 (fun z => by rw [c_18] at z; cases z)) (hm2) (by omega)
          · refine g_iload_n F 3 rfl dX11_radius_36 ?_
            refine g_goto F 41 dX11_radius_37 (by decide) ?_
            refine g_istore_n F 1 [(0, .ref (A 0)), (1, .int (nI 0)), (2, .int (nI i)), (3, .int (nI 0))] [1, 0, 2, 3] dX11_radius_41 rfl (by decide) rfl ?_
            refine g_iinc F (nI (i + 1)) 2 2 [(0, .ref (A 0)), (1, .int (nI 0)), (2, .int (nI (i + 1))), (3, .int (nI 0))] [1, 2, 0, 3] dX11_radius_42 rfl (n_inc i) (by decide) rfl ?_
            refine g_goto F 4 dX11_radius_45 (by decide) ?_
            refine g_lv [0, 1, 2] [(0, .ref (A 0)), (1, .int (nI 0)), (2, .int (nI (i + 1)))] rfl ?_
            exact ih_4 (i + 1) 0 g (by omega) (by omega) (fun t ht z => absurd c_33 (by omega)) (Or.inl rfl) (by omega)
        · refine g_aload_n F 0 rfl dX11_radius_21 ?_
          refine g_iload_n F 2 rfl dX11_radius_22 ?_
          refine g_cVi F (wr := []) [] (c_X11_fromResults E A ln pl td zi rf rg g bs zt al pp pw ph n kd rk ps L tN I i rt (hK) (hZ) (by omega) (hrk) (hrt)) (gi_V tw_ml_X11_116 tw_im_X11_fromResults tw_se_X11_fromResults tw_in_X11 tw_co_X11_fromResults) 1 rfl (by decide) ⟨rfl, rfl, by decide, by decide, Nat.zero_le _, Nat.zero_le _⟩ 11 0 rfl rfl [0, 1, 2, 3, 4, 5, 6, 7, 8, 9, 10, 11, 12, 13] [] [0, 1, 2, 3, 4, 5, 6, 7, 8, 9, 10, 11, 12, 13] (fun u => [ob (A 0) 11 [.int (nI n), .int (nI kd), .ref (A 1), .ref (A 2), .ref (A 3), .ref (A 4), .int (nI rk), .ref (A 5), .ref (A 6), .ref (A 7), .ref (A 8), .ref (A 9), .ref (A 10), .ref (A 11), .int ps, .ref (A 12), .ref (A 13)], ia E (A 1) 60 ln, ia E (A 2) 480 pl, ia E (A 3) 3600 td, za E (A 4) 60 zi, ia E (A 5) 60 rf, ia E (A 6) 60 rg, ia E (A 7) 81 u, ia E (A 8) 3 bs, za E (A 9) 60 zt, ia E (A 10) 3600 al, ia E (A 11) 60 pp, ia E (A 12) 60 pw, ia E (A 13) 60 ph]) rfl rfl (by decide) (fun _ => rfl) rfl (Nat.le_of_ble_eq_true rfl) dX11_radius_23 (fun r_23 u hu_23 => ?_)
          revert hu_23; revert u; intro co_23 hu_23
          subst hu_23
          refine g_goto F 30 dX11_radius_26 (by decide) ?_
          refine g_istore_n F 3 [(0, .ref (A 0)), (1, .int (nI m)), (2, .int (nI i)), (3, .int (nI (mrN (dsN kd L pl tN) i rt rk)))] [1, 2, 3, 0] dX11_radius_30 rfl (by decide) rfl ?_
          have hmr := mr_le (dsN kd L pl tN) i rt rk
          refine g_iload_n F 3 rfl dX11_radius_31 ?_
          refine g_iload_n F 1 rfl dX11_radius_32 ?_
          refine n_icmp_le F 40 dX11_radius_33 (by decide) (by omega) (by omega) (fun c_33 => ?_) (fun c_33 => ?_)
          · refine g_iload_n F 1 rfl dX11_radius_40 ?_
            refine g_istore_n F 1 [(0, .ref (A 0)), (1, .int (nI m)), (2, .int (nI i)), (3, .int (nI (mrN (dsN kd L pl tN) i rt rk)))] [1, 0, 2, 3] dX11_radius_41 rfl (by decide) rfl ?_
            refine g_iinc F (nI (i + 1)) 2 2 [(0, .ref (A 0)), (1, .int (nI m)), (2, .int (nI (i + 1))), (3, .int (nI (mrN (dsN kd L pl tN) i rt rk)))] [1, 2, 0, 3] dX11_radius_42 rfl (n_inc i) (by decide) rfl ?_
            refine g_goto F 4 dX11_radius_45 (by decide) ?_
            refine g_lv [0, 1, 2] [(0, .ref (A 0)), (1, .int (nI m)), (2, .int (nI (i + 1)))] rfl ?_
            exact ih_4 (i + 1) m co_23 (by omega) (hm0) (lt_s hm1 (fun _ => c_33)) (hm2) (by omega)
          · refine g_iload_n F 3 rfl dX11_radius_36 ?_
            refine g_goto F 41 dX11_radius_37 (by decide) ?_
            refine g_istore_n F 1 [(0, .ref (A 0)), (1, .int (nI (mrN (dsN kd L pl tN) i rt rk))), (2, .int (nI i)), (3, .int (nI (mrN (dsN kd L pl tN) i rt rk)))] [1, 0, 2, 3] dX11_radius_41 rfl (by decide) rfl ?_
            refine g_iinc F (nI (i + 1)) 2 2 [(0, .ref (A 0)), (1, .int (nI (mrN (dsN kd L pl tN) i rt rk))), (2, .int (nI (i + 1))), (3, .int (nI (mrN (dsN kd L pl tN) i rt rk)))] [1, 2, 0, 3] dX11_radius_42 rfl (n_inc i) (by decide) rfl ?_
            refine g_goto F 4 dX11_radius_45 (by decide) ?_
            refine g_lv [0, 1, 2] [(0, .ref (A 0)), (1, .int (nI (mrN (dsN kd L pl tN) i rt rk))), (2, .int (nI (i + 1)))] rfl ?_
            exact ih_4 (i + 1) (mrN (dsN kd L pl tN) i rt rk) co_23 (by omega) (mr_le _ _ _ _) (lt_s (fun t ht z => by have := hm1 t ht z; omega) (fun _ => Nat.le_refl _)) (Or.inr ⟨i, c_18, rfl⟩) (by omega)
  exact lp_4 _ 0 0 co (by omega) (by omega) (fun t h => absurd h (Nat.not_lt_zero t)) (Or.inl rfl) (Nat.lt_succ_self _)
