theorem cI_three {I : Nat → Bool} : ∀ n, 3 ≤ cI I n → ∃ p q r, p < q ∧ q < r ∧ r < n ∧ I p = true ∧ I q = true ∧ I r = true := by
  intro n
  induction n with
  | zero => intro h; exact absurd (show 3 ≤ 0 from h) (by decide)
  | succ n ih =>
    intro h
    have h2 : 3 ≤ cI I n + (if I n = true then 1 else 0) := h
    by_cases c : I n = true
    · rw [if_pos c] at h2
      obtain ⟨p, q, h3, h4, h5, h6⟩ := cI_two (I := I) n (by omega)
      exact ⟨p, q, n, h3, h4, by omega, h5, h6, c⟩
    · rw [if_neg c] at h2
      obtain ⟨p, q, r, h3, h4, h5, h6⟩ := ih h2
      exact ⟨p, q, r, h3, h4, by omega, h6⟩
/-- k of the book, rising; the last stands for those that are left out -/
def T3 (I : Nat → Bool) (k a b c : Nat) : Prop := I a = true ∧ I b = true ∧ I c = true ∧ ((1 < k ∧ a < b) ∨ (k ≤ 1 ∧ b = a)) ∧ ((2 < k ∧ b < c) ∨ (k ≤ 2 ∧ c = b))
def D3 (a b c x y z : Nat) : Prop := x < a ∨ (x = a ∧ (y < b ∨ (y = b ∧ z < c)))
def B3 (RR : Nat → Nat → Nat → Nat) (I : Nat → Bool) (k a b c : Nat) (w x y z : Int32) : Prop := (w = -1 ∧ ∀ x1 y1 z1, T3 I k x1 y1 z1 → ¬ D3 a b c x1 y1 z1) ∨ ∃ x0 y0 z0, w = nI (RR x0 y0 z0) ∧ x = nI x0 ∧ y = nI y0 ∧ z = nI z0 ∧ T3 I k x0 y0 z0 ∧ D3 a b c x0 y0 z0 ∧ ∀ x1 y1 z1, T3 I k x1 y1 z1 → D3 a b c x1 y1 z1 → RR x0 y0 z0 < RR x1 y1 z1 ∨ (RR x0 y0 z0 = RR x1 y1 z1 ∧ ¬ D3 x0 y0 z0 x1 y1 z1)
theorem t3_find {I : Nat → Bool} {k n : Nat} (h1 : 1 ≤ k) (h3 : k ≤ 3) (h : k ≤ cI I n) : ∃ a b c, T3 I k a b c := by
  rcases (show k = 1 ∨ k = 2 ∨ k = 3 by omega) with rfl | rfl | rfl
  · obtain ⟨t, -, e⟩ := cI_find (I := I) n (by omega)
    exact ⟨t, t, t, e, e, e, by omega, by omega⟩
  · obtain ⟨p, q, q1, q2, q3, q4⟩ := cI_two (I := I) n (by omega)
    exact ⟨p, q, q, q3, q4, q4, by omega, by omega⟩
  · obtain ⟨p, q, r, q1, q2, q3, q4, q5, q6⟩ := cI_three (I := I) n (by omega)
    exact ⟨p, q, r, q4, q5, q6, by omega, by omega⟩
theorem d3_s {a b c x y z : Nat} : D3 a b (c + 1) x y z ↔ (D3 a b c x y z ∨ (x = a ∧ y = b ∧ z = c)) := by unfold D3; omega
section B3S
variable {RR : Nat → Nat → Nat → Nat} {I : Nat → Bool} {k a b c a2 b2 c2 x0 y0 z0 : Nat} {w x y z : Int32}
theorem b3_re (h : B3 RR I k a b c w x y z) (hd : ∀ x1 y1 z1, T3 I k x1 y1 z1 → (D3 a b c x1 y1 z1 ↔ D3 a2 b2 c2 x1 y1 z1)) : B3 RR I k a2 b2 c2 w x y z := by
  rcases h with ⟨h1, h2⟩ | ⟨x0, y0, z0, h1, h2, h3, h4, h5, h6, h7⟩
  · exact Or.inl ⟨h1, fun x1 y1 z1 t q => h2 x1 y1 z1 t ((hd _ _ _ t).mpr q)⟩
  · exact Or.inr ⟨x0, y0, z0, h1, h2, h3, h4, h5, (hd _ _ _ h5).mp h6, fun x1 y1 z1 t q => h7 x1 y1 z1 t ((hd _ _ _ t).mpr q)⟩
theorem b3_skip (h : B3 RR I k a b c w x y z) (hn : ¬ T3 I k a b c) : B3 RR I k a b (c + 1) w x y z := b3_re h (fun x1 y1 z1 t => by
  rw [d3_s]
  exact ⟨Or.inl, fun q => q.elim id (fun e => by
    obtain ⟨rfl, rfl, rfl⟩ := e
    exact absurd t hn)⟩)
theorem b3_new (ht : T3 I k a b c) (hl : ∀ x1 y1 z1, T3 I k x1 y1 z1 → D3 a b c x1 y1 z1 → RR a b c < RR x1 y1 z1) : B3 RR I k a b (c + 1) (nI (RR a b c)) (nI a) (nI b) (nI c) := Or.inr ⟨a, b, c, rfl, rfl, rfl, rfl, ht, by unfold D3; omega, fun x1 y1 z1 t q => by
  rcases d3_s.mp q with q | ⟨rfl, rfl, rfl⟩
  · exact Or.inl (hl _ _ _ t q)
  · exact Or.inr ⟨rfl, by unfold D3; omega⟩⟩
theorem b3_first (h : B3 RR I k a b c w x y z) (hw : w = -1) (hb : ∀ x y z, I x = true → RR x y z < 2 ^ 31) (ht : T3 I k a b c) : B3 RR I k a b (c + 1) (nI (RR a b c)) (nI a) (nI b) (nI c) := by
  rcases h with ⟨h1, h2⟩ | ⟨x0, y0, z0, h1, -, -, -, h5, -⟩
  · exact b3_new ht (fun x1 y1 z1 t q => absurd q (h2 _ _ _ t))
  · rw [hw] at h1
    exact absurd h1.symm (nI_m1 (hb _ _ _ h5.1))
theorem b3_less (ht : T3 I k a b c) (h7 : ∀ x1 y1 z1, T3 I k x1 y1 z1 → D3 a b c x1 y1 z1 → RR x0 y0 z0 < RR x1 y1 z1 ∨ (RR x0 y0 z0 = RR x1 y1 z1 ∧ ¬ D3 x0 y0 z0 x1 y1 z1)) (hl : RR a b c < RR x0 y0 z0) : B3 RR I k a b (c + 1) (nI (RR a b c)) (nI a) (nI b) (nI c) := b3_new ht (fun x1 y1 z1 t q => by
  have := h7 x1 y1 z1 t q
  omega)
theorem b3_keep (h5 : T3 I k x0 y0 z0) (h6 : D3 a b c x0 y0 z0) (h7 : ∀ x1 y1 z1, T3 I k x1 y1 z1 → D3 a b c x1 y1 z1 → RR x0 y0 z0 < RR x1 y1 z1 ∨ (RR x0 y0 z0 = RR x1 y1 z1 ∧ ¬ D3 x0 y0 z0 x1 y1 z1)) (hl : ¬ RR a b c < RR x0 y0 z0) : B3 RR I k a b (c + 1) (nI (RR x0 y0 z0)) (nI x0) (nI y0) (nI z0) := Or.inr ⟨x0, y0, z0, rfl, rfl, rfl, rfl, h5, d3_s.mpr (Or.inl h6), fun x1 y1 z1 t q => by
  rcases d3_s.mp q with q | ⟨rfl, rfl, rfl⟩
  · exact h7 _ _ _ t q
  · unfold D3 at h6 ⊢
    omega⟩
end B3S
def m3 (dd : Nat → Nat → Nat) (t a b c : Nat) : Nat := Nat.min (dd t a) (Nat.min (dd t b) (dd t c))
/-- the farthest of the first i from the three -/
def rrN (dd : Nat → Nat → Nat) (I : Nat → Bool) (a b c : Nat) : Nat → Nat
  | 0 => 0
  | i + 1 => if I i = true ∧ rrN dd I a b c i < m3 dd i a b c then m3 dd i a b c else rrN dd I a b c i
section RRS
variable {dd : Nat → Nat → Nat} {I : Nat → Bool} {a b c : Nat}
theorem rr_1 {i : Nat} (h1 : I i = true) (h2 : rrN dd I a b c i < m3 dd i a b c) : m3 dd i a b c = rrN dd I a b c (i + 1) := by
  show _ = if _ then _ else _
  rw [if_pos ⟨h1, h2⟩]
theorem rr_0 {i : Nat} (h : ¬ (I i = true ∧ rrN dd I a b c i < m3 dd i a b c)) : rrN dd I a b c i = rrN dd I a b c (i + 1) := by
  show _ = if _ then _ else _
  rw [if_neg h]
theorem rr_le {M : Nat} (h : ∀ t, I t = true → dd t a ≤ M) : ∀ i, rrN dd I a b c i ≤ M := by
  intro i
  induction i with
  | zero => exact Nat.zero_le _
  | succ i ih =>
    show (if _ then _ else _) ≤ _
    split
    · rename_i q
      exact Nat.le_trans (Nat.min_le_left _ _) (h i q.1)
    · exact ih
theorem rr_spec : ∀ i, (∀ t, t < i → I t = true → m3 dd t a b c ≤ rrN dd I a b c i) ∧ (rrN dd I a b c i = 0 ∨ ∃ t, I t = true ∧ m3 dd t a b c = rrN dd I a b c i) := by
  intro i
  induction i with
  | zero => exact ⟨fun t h => absurd h (Nat.not_lt_zero t), Or.inl rfl⟩
  | succ i ih =>
    by_cases q : I i = true ∧ rrN dd I a b c i < m3 dd i a b c
    · have e := rr_1 q.1 q.2
      rw [← e]
      exact ⟨lt_s (fun t ht hI => Nat.le_trans (ih.1 t ht hI) (Nat.le_of_lt q.2)) (fun _ => Nat.le_refl _), Or.inr ⟨i, q.1, rfl⟩⟩
    · have e := rr_0 q
      rw [← e]
      exact ⟨lt_s ih.1 (fun hI => Nat.not_lt.mp (fun z => q ⟨hI, z⟩)), ih.2⟩
end RRS
def t3 (a b c : Nat) : Nat → Nat := fun j => if j = 0 then a else if j = 1 then b else c
theorem t3_cdt {I : Nat → Bool} {k a b c : Nat} (hk3 : k ≤ 3) (h : T3 I k a b c) : CDT I (k - 1) (t3 a b c) := by
  obtain ⟨h1, h2, h3, h4, h5⟩ := h
  constructor
  · intro i hi
    unfold t3
    split
    · exact h1
    · split
      · exact h2
      · exact h3
  · intro i hi
    rcases (show i = 0 ∨ i = 1 by omega) with rfl | rfl
    · show a < b; omega
    · show b < c; omega
theorem t3_md {dd : Nat → Nat → Nat} {I : Nat → Bool} {k a b c x : Nat} (hk1 : 1 ≤ k) (hk3 : k ≤ 3) (h : T3 I k a b c) (hs : ∀ x y, I x = true → I y = true → dd x y = dd y x) (hb : ∀ x y, I x = true → I y = true → dd x y ≤ 100000) (hx : I x = true) : md dd (t3 a b c) k x = m3 dd x a b c := by
  obtain ⟨h1, h2, h3, h4, h5⟩ := h
  have e1 := hs x a hx h1
  have e2 := hs x b hx h2
  have e3 := hs x c hx h3
  have b1 := hb a x h1 hx
  have b2 := hb b x h2 hx
  rcases (show k = 1 ∨ k = 2 ∨ k = 3 by omega) with rfl | rfl | rfl
  · obtain rfl : b = a := by omega
    obtain rfl : c = b := by omega
    show min 100000 (dd c x) = min (dd x c) (min (dd x c) (dd x c))
    omega
  · obtain rfl : c = b := by omega
    show min (min 100000 (dd a x)) (dd c x) = min (dd x a) (min (dd x c) (dd x c))
    omega
  · show min (min (min 100000 (dd a x)) (dd b x)) (dd c x) = min (dd x a) (min (dd x b) (dd x c))
    omega
theorem rr_rad {dd : Nat → Nat → Nat} {I : Nat → Bool} {n k a b c : Nat} (hk1 : 1 ≤ k) (hk3 : k ≤ 3) (hI : ∀ t, I t = true → t < n) (hs : ∀ x y, I x = true → I y = true → dd x y = dd y x) (hb : ∀ x y, I x = true → I y = true → dd x y ≤ 100000) (h : T3 I k a b c) : RAD dd I (t3 a b c) k (rrN dd I a b c n) := by
  have sp := rr_spec (dd := dd) (I := I) (a := a) (b := b) (c := c) n
  refine ⟨fun x hx => by rw [t3_md hk1 hk3 h hs hb hx]; exact sp.1 x (hI x hx) hx, ?_⟩
  rcases sp.2 with z | ⟨t, ht, e⟩
  · refine ⟨a, h.1, ?_⟩
    rw [t3_md hk1 hk3 h hs hb h.1, z]
    have := sp.1 a (hI a h.1) h.1
    omega
  · exact ⟨t, ht, by rw [t3_md hk1 hk3 h hs hb ht]; exact e⟩
theorem t3_of {I : Nat → Bool} {k : Nat} {t : Nat → Nat} (hk1 : 1 ≤ k) (hk3 : k ≤ 3) (h : CDT I (k - 1) t) : ∃ a b c, T3 I k a b c ∧ agr (k - 1) t (t3 a b c) := by
  rcases (show k = 1 ∨ k = 2 ∨ k = 3 by omega) with rfl | rfl | rfl
  · refine ⟨t 0, t 0, t 0, ⟨h.1 0 (by omega), h.1 0 (by omega), h.1 0 (by omega), by omega, by omega⟩, fun i hi => ?_⟩
    obtain rfl : i = 0 := by omega
    rfl
  · have h0 : t 0 < t 1 := h.2 0 (by omega)
    refine ⟨t 0, t 1, t 1, ⟨h.1 0 (by omega), h.1 1 (by omega), h.1 1 (by omega), by omega, by omega⟩, fun i hi => ?_⟩
    rcases (show i = 0 ∨ i = 1 by omega) with rfl | rfl <;> rfl
  · have h0 : t 0 < t 1 := h.2 0 (by omega)
    have h1 : t 1 < t 2 := h.2 1 (by omega)
    refine ⟨t 0, t 1, t 2, ⟨h.1 0 (by omega), h.1 1 (by omega), h.1 2 (by omega), by omega, by omega⟩, fun i hi => ?_⟩
    rcases (show i = 0 ∨ i = 1 ∨ i = 2 by omega) with rfl | rfl | rfl <;> rfl
theorem bsp_of3 {dd : Nat → Nat → Nat} {I : Nat → Bool} {n k x0 y0 z0 : Nat} (hk1 : 1 ≤ k) (hk3 : k ≤ 3) (hI : ∀ t, I t = true → t < n) (hs : ∀ x y, I x = true → I y = true → dd x y = dd y x) (hb : ∀ x y, I x = true → I y = true → dd x y ≤ 100000) (ht : T3 I k x0 y0 z0) (hm : ∀ x1 y1 z1, T3 I k x1 y1 z1 → rrN dd I x0 y0 z0 n < rrN dd I x1 y1 z1 n ∨ (rrN dd I x0 y0 z0 n = rrN dd I x1 y1 z1 n ∧ ¬ D3 x0 y0 z0 x1 y1 z1)) : BSP dd I (k - 1) (t3 x0 y0 z0) (rrN dd I x0 y0 z0 n) := by
  have ek : k - 1 + 1 = k := by omega
  refine ⟨t3_cdt hk3 ht, by rw [ek]; exact rr_rad hk1 hk3 hI hs hb ht, rr_le (fun t h => hb t x0 h ht.1) n, fun t2 hc r2 hr => ?_⟩
  rw [ek] at hr
  obtain ⟨a, b, c, h1, h2⟩ := t3_of hk1 hk3 hc
  have hr3 : RAD dd I t2 k (rrN dd I a b c n) := by
    have q := rr_rad hk1 hk3 hI hs hb h1
    have e : ∀ x, md dd t2 k x = md dd (t3 a b c) k x := fun x => md_congr x (fun j hj => h2 j (by omega))
    exact ⟨fun x hx => by rw [e]; exact q.1 x hx, by
      obtain ⟨x, hx, e2⟩ := q.2
      exact ⟨x, hx, by rw [e]; exact e2⟩⟩
  rw [rad_uni hr hr3]
  rcases hm a b c h1 with q | ⟨q1, q2⟩
  · exact Or.inl q
  · refine Or.inr ⟨q1, lx_agr (by omega) (t1 := t3 a b c) ?_ h2⟩
    obtain ⟨-, -, -, u4, u5⟩ := ht
    obtain ⟨-, -, -, v4, v5⟩ := h1
    unfold D3 at q2
    show x0 < a ∨ (x0 = a ∧ (k - 1 = 0 ∨ y0 < b ∨ (y0 = b ∧ (k - 1 = 1 ∨ z0 ≤ c))))
    omega

set_option maxHeartbeats 4000000 in
set_option maxRecDepth 100000 in
theorem c_X11_radiusOf (E : Ev) (A : Nat → Nat) (ln : Nat → Int32) (pl : Nat → Int32) (td : Nat → Int32) (zi : Nat → Int32) (rf : Nat → Int32) (rg : Nat → Int32) (co : Nat → Int32) (bs : Nat → Int32) (zt : Nat → Int32) (al : Nat → Int32) (pp : Nat → Int32) (pw : Nat → Int32) (ph : Nat → Int32) (n : Nat) (kd : Nat) (rk : Nat) (ps : Int32) (L : Nat → Nat) (tN : Nat → Nat) (I : Nat → Bool) (p0 : Nat) (q0 : Nat) (s0 : Nat) (hK : MDK n kd L ln pl tN td) (hZ : ZI n zi I) (hp : p0 < n) (hq : q0 < n) (hs0 : s0 < n) (hal : ∀ t s, t < n → s < n → al (t * 60 + s) = nI (dsN kd L pl tN t s)) : RDi E yX11_radiusOf (wq yX11_radiusOf cX11_radiusOf 7 (some .int)) (rmk 1 21) [.ref (A 0), .int (nI p0), .int (nI q0), .int (nI s0)] [ob (A 0) 11 [.int (nI n), .int (nI kd), .ref (A 1), .ref (A 2), .ref (A 3), .ref (A 4), .int (nI rk), .ref (A 5), .ref (A 6), .ref (A 7), .ref (A 8), .ref (A 9), .ref (A 10), .ref (A 11), .int ps, .ref (A 12), .ref (A 13)], ia E (A 1) 60 ln, ia E (A 2) 480 pl, ia E (A 3) 3600 td, za E (A 4) 60 zi, ia E (A 5) 60 rf, ia E (A 6) 60 rg, ia E (A 7) 81 co, ia E (A 8) 3 bs, za E (A 9) 60 zt, ia E (A 10) 3600 al, ia E (A 11) 60 pp, ia E (A 12) 60 pw, ia E (A 13) 60 ph] (nI (rrN (dsN kd L pl tN) I p0 q0 s0 n)) := by
  refine CTi.of (by decide) (Nat.le_of_ble_eq_true rfl) (fun X F R => ?_)
  refine g_lv [0, 1, 2, 3] [(0, .ref (A 0)), (1, .int (nI p0)), (2, .int (nI q0)), (3, .int (nI s0))] rfl ?_
  have hn60 := hK.1
  refine g_iconst F (nI 0) (by decide) dX11_radiusOf_0 ?_
  refine g_istore F 4 [(0, .ref (A 0)), (1, .int (nI p0)), (2, .int (nI q0)), (3, .int (nI s0)), (4, .int (nI 0))] [1, 2, 3, 4, 0] dX11_radiusOf_1 (by decide) rfl ?_
  refine g_iconst F (nI 0) (by decide) dX11_radiusOf_3 ?_
  refine g_istore F 5 [(0, .ref (A 0)), (1, .int (nI p0)), (2, .int (nI q0)), (3, .int (nI s0)), (4, .int (nI 0)), (5, .int (nI 0))] [1, 2, 3, 4, 5, 0] dX11_radiusOf_4 (by decide) rfl ?_
  have lp_6 : ∀ (n_6 : Nat) (i : Nat) (m : Nat), (i ≤ n) → (m = rrN (dsN kd L pl tN) I p0 q0 s0 i) → n - i < n_6 → GW E X 0 0 [ob (A 0) 11 [.int (nI n), .int (nI kd), .ref (A 1), .ref (A 2), .ref (A 3), .ref (A 4), .int (nI rk), .ref (A 5), .ref (A 6), .ref (A 7), .ref (A 8), .ref (A 9), .ref (A 10), .ref (A 11), .int ps, .ref (A 12), .ref (A 13)], ia E (A 1) 60 ln, ia E (A 2) 480 pl, ia E (A 3) 3600 td, za E (A 4) 60 zi, ia E (A 5) 60 rf, ia E (A 6) 60 rg, ia E (A 7) 81 co, ia E (A 8) 3 bs, za E (A 9) 60 zt, ia E (A 10) 3600 al, ia E (A 11) 60 pp, ia E (A 12) 60 pw, ia E (A 13) 60 ph] [(0, .ref (A 0)), (1, .int (nI p0)), (2, .int (nI q0)), (3, .int (nI s0)), (4, .int (nI m)), (5, .int (nI i))] 6 [] := by
    intro n_6
    induction n_6 with
    | zero => intro i m hi hm hm_6; exact absurd hm_6 (Nat.not_lt_zero _)
    | succ n_6 ih_6 =>
      intro i m hi hm hm_6
      refine g_iload F 5 rfl dX11_radiusOf_6 ?_
      refine g_aload_n F 0 rfl dX11_radiusOf_8 ?_
      refine g_get F 11 0 0 inX11 rfl rfl (by decide) tw_fl_X11_50 rfl dX11_radiusOf_9 ?_
      refine n_icmp_ge F 94 dX11_radiusOf_12 (by decide) (by omega) (by omega) (fun c_12 => ?_) (fun c_12 => ?_)
      · refine g_iload F 4 rfl dX11_radiusOf_94 ?_
        exact R _ (()) _ _ dX11_radiusOf_96 (by rw [hm, show i = n by omega])
      · refine g_aload_n F 0 rfl dX11_radiusOf_15 ?_
        refine g_get F 11 0 5 inX11 rfl rfl (by decide) tw_fl_X11_19 rfl dX11_radiusOf_16 ?_
        refine g_iload F 5 rfl dX11_radiusOf_19 ?_
        refine g_zald F 4 rfl (by omega) (by decide) dX11_radiusOf_21 ?_
        refine g_top (bI (I i)) (hZ.1 i (by omega)) ?_
        refine b_if_ne F 28 dX11_radiusOf_22 (by decide) (fun c_22 => ?_) (fun c_22 => ?_)
        · refine g_aload_n F 0 rfl dX11_radiusOf_28 ?_
          refine g_get F 11 0 12 inX11 rfl rfl (by decide) tw_fl_X11_38 rfl dX11_radiusOf_29 ?_
          refine g_bipush F (nI 60) (by decide) dX11_radiusOf_32 ?_
          refine g_iload F 5 rfl dX11_radiusOf_34 ?_
          refine n_mul F dX11_radiusOf_36 ?_
          refine g_top (nI (i * 60)) (by rw [Nat.mul_comm]) ?_
          refine g_iload_n F 1 rfl dX11_radiusOf_37 ?_
          refine n_add F dX11_radiusOf_38 ?_
          refine g_iald F 10 rfl (by omega) (by decide) dX11_radiusOf_39 ?_
          refine g_top (nI (dsN kd L pl tN i p0)) (hal i p0 (by omega) (by omega)) ?_
          refine g_aload_n F 0 rfl dX11_radiusOf_40 ?_
          refine g_get F 11 0 12 inX11 rfl rfl (by decide) tw_fl_X11_38 rfl dX11_radiusOf_41 ?_
          refine g_bipush F (nI 60) (by decide) dX11_radiusOf_44 ?_
          refine g_iload F 5 rfl dX11_radiusOf_46 ?_
          refine n_mul F dX11_radiusOf_48 ?_
          refine g_top (nI (i * 60)) (by rw [Nat.mul_comm]) ?_
          refine g_iload_n F 2 rfl dX11_radiusOf_49 ?_
          refine n_add F dX11_radiusOf_50 ?_
          refine g_iald F 10 rfl (by omega) (by decide) dX11_radiusOf_51 ?_
          refine g_top (nI (dsN kd L pl tN i q0)) (hal i q0 (by omega) (by omega)) ?_
          refine g_aload_n F 0 rfl dX11_radiusOf_52 ?_
          refine g_get F 11 0 12 inX11 rfl rfl (by decide) tw_fl_X11_38 rfl dX11_radiusOf_53 ?_
          refine g_bipush F (nI 60) (by decide) dX11_radiusOf_56 ?_
          refine g_iload F 5 rfl dX11_radiusOf_58 ?_
          refine n_mul F dX11_radiusOf_60 ?_
          refine g_top (nI (i * 60)) (by rw [Nat.mul_comm]) ?_
          refine g_iload_n F 3 rfl dX11_radiusOf_61 ?_
          refine n_add F dX11_radiusOf_62 ?_
          refine g_iald F 10 rfl (by omega) (by decide) dX11_radiusOf_63 ?_
          refine g_top (nI (dsN kd L pl tN i s0)) (hal i s0 (by omega) (by omega)) ?_
          refine g_rSi F (wr := [ob (A 0) 11 [.int (nI n), .int (nI kd), .ref (A 1), .ref (A 2), .ref (A 3), .ref (A 4), .int (nI rk), .ref (A 5), .ref (A 6), .ref (A 7), .ref (A 8), .ref (A 9), .ref (A 10), .ref (A 11), .int ps, .ref (A 12), .ref (A 13)], ia E (A 1) 60 ln, ia E (A 2) 480 pl, ia E (A 3) 3600 td, za E (A 4) 60 zi, ia E (A 5) 60 rf, ia E (A 6) 60 rg, ia E (A 7) 81 co, ia E (A 8) 3 bs, za E (A 9) 60 zt, ia E (A 10) 3600 al, ia E (A 11) 60 pp, ia E (A 12) 60 pw, ia E (A 13) 60 ph]) [.int (nI (dsN kd L pl tN i p0))] (c_X11_least E (dsN kd L pl tN i q0) (dsN kd L pl tN i s0) (by have := ds_le (kd := kd) (a := i) (b := q0) hK.2.2.1 hK.2.2.2.1 hK.2.2.2.2.1 (by omega) (by omega); omega) (by have := ds_le (kd := kd) (a := i) (b := s0) hK.2.2.1 hK.2.2.2.1 hK.2.2.2.2.1 (by omega) (by omega); omega)) ⟨tw_ml_X11_66, tw_sm_X11_least, tw_in_X11, tw_co_X11_least⟩ 2 rfl (by decide) ⟨rfl, rfl, by decide, by decide, Nat.zero_le _, Nat.zero_le _⟩ [] [0, 1, 2, 3, 4, 5, 6, 7, 8, 9, 10, 11, 12, 13] [0, 1, 2, 3, 4, 5, 6, 7, 8, 9, 10, 11, 12, 13] rfl rfl (by decide) rfl rfl (Nat.le_of_ble_eq_true rfl) dX11_radiusOf_64 ?_
          refine g_rSi F (wr := [ob (A 0) 11 [.int (nI n), .int (nI kd), .ref (A 1), .ref (A 2), .ref (A 3), .ref (A 4), .int (nI rk), .ref (A 5), .ref (A 6), .ref (A 7), .ref (A 8), .ref (A 9), .ref (A 10), .ref (A 11), .int ps, .ref (A 12), .ref (A 13)], ia E (A 1) 60 ln, ia E (A 2) 480 pl, ia E (A 3) 3600 td, za E (A 4) 60 zi, ia E (A 5) 60 rf, ia E (A 6) 60 rg, ia E (A 7) 81 co, ia E (A 8) 3 bs, za E (A 9) 60 zt, ia E (A 10) 3600 al, ia E (A 11) 60 pp, ia E (A 12) 60 pw, ia E (A 13) 60 ph]) [] (c_X11_least E (dsN kd L pl tN i p0) (Nat.min (dsN kd L pl tN i q0) (dsN kd L pl tN i s0)) (by have := ds_le (kd := kd) (a := i) (b := p0) hK.2.2.1 hK.2.2.2.1 hK.2.2.2.2.1 (by omega) (by omega); omega) (Nat.lt_of_le_of_lt (Nat.min_le_left _ _) (by have := ds_le (kd := kd) (a := i) (b := q0) hK.2.2.1 hK.2.2.2.1 hK.2.2.2.2.1 (by omega) (by omega); omega))) ⟨tw_ml_X11_66, tw_sm_X11_least, tw_in_X11, tw_co_X11_least⟩ 2 rfl (by decide) ⟨rfl, rfl, by decide, by decide, Nat.zero_le _, Nat.zero_le _⟩ [] [0, 1, 2, 3, 4, 5, 6, 7, 8, 9, 10, 11, 12, 13] [0, 1, 2, 3, 4, 5, 6, 7, 8, 9, 10, 11, 12, 13] rfl rfl (by decide) rfl rfl (Nat.le_of_ble_eq_true rfl) dX11_radiusOf_67 ?_
          refine g_top (nI (m3 (dsN kd L pl tN) i p0 q0 s0)) (rfl) ?_
          have hd3 : m3 (dsN kd L pl tN) i p0 q0 s0 ≤ 100000 := Nat.le_trans (Nat.min_le_left _ _) (ds_le (kd := kd) (a := i) (b := p0) hK.2.2.1 hK.2.2.2.1 hK.2.2.2.2.1 (by omega) (by omega))
          refine g_istore F 6 [(0, .ref (A 0)), (1, .int (nI p0)), (2, .int (nI q0)), (3, .int (nI s0)), (4, .int (nI m)), (5, .int (nI i)), (6, .int (nI (m3 (dsN kd L pl tN) i p0 q0 s0)))] [1, 2, 3, 4, 5, 6, 0] dX11_radiusOf_70 (by decide) rfl ?_
          refine g_iload F 6 rfl dX11_radiusOf_72 ?_
          refine g_iload F 4 rfl dX11_radiusOf_74 ?_
          refine n_icmp_le F 84 dX11_radiusOf_76 (by decide) (by omega) (by have := rr_le (dd := dsN kd L pl tN) (I := I) (a := p0) (b := q0) (c := s0) (M := 100000) (fun t h => ds_le (kd := kd) hK.2.2.1 hK.2.2.2.1 hK.2.2.2.2.1 (by have := hZ.2 t h; omega) (by omega)) i; omega) (fun c_76 => ?_) (fun c_76 => ?_)
          · refine g_iload F 4 rfl dX11_radiusOf_84 ?_
            refine g_istore F 4 [(0, .ref (A 0)), (1, .int (nI p0)), (2, .int (nI q0)), (3, .int (nI s0)), (4, .int (nI m)), (5, .int (nI i)), (6, .int (nI (m3 (dsN kd L pl tN) i p0 q0 s0)))] [1, 2, 3, 4, 0, 5, 6] dX11_radiusOf_86 (by decide) rfl ?_
            refine g_iinc F (nI (i + 1)) 5 5 [(0, .ref (A 0)), (1, .int (nI p0)), (2, .int (nI q0)), (3, .int (nI s0)), (4, .int (nI m)), (5, .int (nI (i + 1))), (6, .int (nI (m3 (dsN kd L pl tN) i p0 q0 s0)))] [1, 2, 3, 4, 5, 0, 6] dX11_radiusOf_88 rfl (n_inc i) (by decide) rfl ?_
            refine g_goto F 6 dX11_radiusOf_91 (by decide) ?_
            refine g_lv [0, 1, 2, 3, 4, 5] [(0, .ref (A 0)), (1, .int (nI p0)), (2, .int (nI q0)), (3, .int (nI s0)), (4, .int (nI m)), (5, .int (nI (i + 1)))] rfl ?_
            exact ih_6 (i + 1) m (by omega) (hm.trans (rr_0 (fun z => by have := z.2; omega))) (by omega)
          · refine g_iload F 6 rfl dX11_radiusOf_79 ?_
            refine g_goto F 86 dX11_radiusOf_81 (by decide) ?_
            refine g_istore F 4 [(0, .ref (A 0)), (1, .int (nI p0)), (2, .int (nI q0)), (3, .int (nI s0)), (4, .int (nI (m3 (dsN kd L pl tN) i p0 q0 s0))), (5, .int (nI i)), (6, .int (nI (m3 (dsN kd L pl tN) i p0 q0 s0)))] [1, 2, 3, 4, 0, 5, 6] dX11_radiusOf_86 (by decide) rfl ?_
            refine g_iinc F (nI (i + 1)) 5 5 [(0, .ref (A 0)), (1, .int (nI p0)), (2, .int (nI q0)), (3, .int (nI s0)), (4, .int (nI (m3 (dsN kd L pl tN) i p0 q0 s0))), (5, .int (nI (i + 1))), (6, .int (nI (m3 (dsN kd L pl tN) i p0 q0 s0)))] [1, 2, 3, 4, 5, 0, 6] dX11_radiusOf_88 rfl (n_inc i) (by decide) rfl ?_
            refine g_goto F 6 dX11_radiusOf_91 (by decide) ?_
            refine g_lv [0, 1, 2, 3, 4, 5] [(0, .ref (A 0)), (1, .int (nI p0)), (2, .int (nI q0)), (3, .int (nI s0)), (4, .int (nI (m3 (dsN kd L pl tN) i p0 q0 s0))), (5, .int (nI (i + 1)))] rfl ?_
            exact ih_6 (i + 1) (m3 (dsN kd L pl tN) i p0 q0 s0) (by omega) (rr_1 c_22 (by omega)) (by omega)
        · refine g_goto F 88 dX11_radiusOf_25 (by decide) ?_
          refine g_iinc F (nI (i + 1)) 5 5 [(0, .ref (A 0)), (1, .int (nI p0)), (2, .int (nI q0)), (3, .int (nI s0)), (4, .int (nI m)), (5, .int (nI (i + 1)))] [1, 2, 3, 4, 5, 0] dX11_radiusOf_88 rfl (n_inc i) (by decide) rfl ?_
          refine g_goto F 6 dX11_radiusOf_91 (by decide) ?_
          exact ih_6 (i + 1) m (by omega) (hm.trans (rr_0 (fun z => by rw [c_22] at z; cases z.1))) (by omega)
  exact lp_6 _ 0 0 (by omega) (rfl) (Nat.lt_succ_self _)

set_option maxHeartbeats 4000000 in
set_option maxRecDepth 100000 in
theorem c_X11_best (E : Ev) (A : Nat → Nat) (ln : Nat → Int32) (pl : Nat → Int32) (td : Nat → Int32) (zi : Nat → Int32) (rf : Nat → Int32) (rg : Nat → Int32) (co : Nat → Int32) (bs : Nat → Int32) (zt : Nat → Int32) (al : Nat → Int32) (pp : Nat → Int32) (pw : Nat → Int32) (ph : Nat → Int32) (n : Nat) (kd : Nat) (rk : Nat) (ps : Int32) (L : Nat → Nat) (tN : Nat → Nat) (I : Nat → Bool) (rt : Nat → Nat) (ra : Nat → Nat) (x : Int32) (hK : MDK n kd L ln pl tN td) (hZ : ZI n zi I) (hR : NBR rk rf rg rt ra) : CTi E yX11_best (wq yX11_best cX11_best 10 (some .int)) (rmk 3 75) [.ref (A 0), .int x] [ob (A 0) 11 [.int (nI n), .int (nI kd), .ref (A 1), .ref (A 2), .ref (A 3), .ref (A 4), .int (nI rk), .ref (A 5), .ref (A 6), .ref (A 7), .ref (A 8), .ref (A 9), .ref (A 10), .ref (A 11), .int ps, .ref (A 12), .ref (A 13)], ia E (A 1) 60 ln, ia E (A 2) 480 pl, ia E (A 3) 3600 td, za E (A 4) 60 zi, ia E (A 5) 60 rf, ia E (A 6) 60 rg, ia E (A 7) 81 co, ia E (A 8) 3 bs, za E (A 9) 60 zt, ia E (A 10) 3600 al, ia E (A 11) 60 pp, ia E (A 12) 60 pw, ia E (A 13) 60 ph] (fun (r : Int32) (u : (Nat → Int32) × (Nat → Int32) × (Nat → Int32) × (Nat → Int32) × (Nat → Int32) × (Nat → Int32) × Nat) => (∃ k0, 1 ≤ k0 ∧ k0 ≤ 3 ∧ x = nI k0 ∧ k0 ≤ cI I n ∧ LWK kd tN n ∧ ∃ t ro, BSP (dsN kd L pl tN) I (k0 - 1) t ro ∧ r = nI ro ∧ u.2.2.2.2.2.2 = k0 ∧ ∀ j, j < k0 → u.2.2.2.2.1 j = nI (t j) ∧ u.2.2.2.2.2.1 j = nI 0) ∨ ((∀ k0, 1 ≤ k0 → k0 ≤ 3 → x = nI k0 → k0 ≤ cI I n → ¬ LWK kd tN n) ∧ r = -1 ∧ u.2.2.2.2.1 = rf ∧ u.2.2.2.2.2.1 = rg ∧ u.2.2.2.2.2.2 = rk)) (fun (u : (Nat → Int32) × (Nat → Int32) × (Nat → Int32) × (Nat → Int32) × (Nat → Int32) × (Nat → Int32) × Nat) => [ob (A 0) 11 [.int (nI n), .int (nI kd), .ref (A 1), .ref (A 2), .ref (A 3), .ref (A 4), .int (nI u.2.2.2.2.2.2), .ref (A 5), .ref (A 6), .ref (A 7), .ref (A 8), .ref (A 9), .ref (A 10), .ref (A 11), .int ps, .ref (A 12), .ref (A 13)], ia E (A 1) 60 ln, ia E (A 2) 480 pl, ia E (A 3) 3600 td, za E (A 4) 60 zi, ia E (A 5) 60 u.2.2.2.2.1, ia E (A 6) 60 u.2.2.2.2.2.1, ia E (A 7) 81 u.1, ia E (A 8) 3 u.2.1, za E (A 9) 60 u.2.2.2.1, ia E (A 10) 3600 u.2.2.1, ia E (A 11) 60 pp, ia E (A 12) 60 pw, ia E (A 13) 60 ph]) := by
  refine CTi.of (by decide) (Nat.le_of_ble_eq_true rfl) (fun X F R => ?_)
  refine g_lv [0, 1] [(0, .ref (A 0)), (1, .int x)] rfl ?_
  have hn60 := hK.1
  have hI60 : ∀ t, I t = true → t < 60 := fun t ht => Nat.lt_of_lt_of_le (hZ.2 t ht) hn60
  have hcl := cI_le I n
  have hsy : ∀ x y, I x = true → I y = true → dsN kd L pl tN x y = dsN kd L pl tN y x := fun x y hx hy => ds_sym hK.2.2.2.2.2 (hI60 x hx) (hI60 y hy)
  have hbd : ∀ x y, I x = true → I y = true → dsN kd L pl tN x y ≤ 100000 := fun x y hx hy => ds_le (kd := kd) hK.2.2.1 hK.2.2.2.1 hK.2.2.2.2.1 (hI60 x hx) (hI60 y hy)
  refine g_iload_n F 1 rfl dX11_best_0 ?_
  refine g_iconst F (nI 1) (by decide) dX11_best_1 ?_
  refine g_iconst F (nI 3) (by decide) dX11_best_2 ?_
  refine g_cSi F (wr := [ob (A 0) 11 [.int (nI n), .int (nI kd), .ref (A 1), .ref (A 2), .ref (A 3), .ref (A 4), .int (nI rk), .ref (A 5), .ref (A 6), .ref (A 7), .ref (A 8), .ref (A 9), .ref (A 10), .ref (A 11), .int ps, .ref (A 12), .ref (A 13)], ia E (A 1) 60 ln, ia E (A 2) 480 pl, ia E (A 3) 3600 td, za E (A 4) 60 zi, ia E (A 5) 60 rf, ia E (A 6) 60 rg, ia E (A 7) 81 co, ia E (A 8) 3 bs, za E (A 9) 60 zt, ia E (A 10) 3600 al, ia E (A 11) 60 pp, ia E (A 12) 60 pw, ia E (A 13) 60 ph]) [] (c_X11_lies E x (nI 1) (nI 3) ) ⟨tw_ml_X11_54, tw_sm_X11_lies, tw_in_X11, tw_co_X11_lies⟩ 3 rfl (by decide) ⟨rfl, rfl, by decide, by decide, Nat.zero_le _, Nat.zero_le _⟩ [] [0, 1, 2, 3, 4, 5, 6, 7, 8, 9, 10, 11, 12, 13] [0, 1, 2, 3, 4, 5, 6, 7, 8, 9, 10, 11, 12, 13] (fun u => [ob (A 0) 11 [.int (nI n), .int (nI kd), .ref (A 1), .ref (A 2), .ref (A 3), .ref (A 4), .int (nI rk), .ref (A 5), .ref (A 6), .ref (A 7), .ref (A 8), .ref (A 9), .ref (A 10), .ref (A 11), .int ps, .ref (A 12), .ref (A 13)], ia E (A 1) 60 ln, ia E (A 2) 480 pl, ia E (A 3) 3600 td, za E (A 4) 60 zi, ia E (A 5) 60 rf, ia E (A 6) 60 rg, ia E (A 7) 81 co, ia E (A 8) 3 bs, za E (A 9) 60 zt, ia E (A 10) 3600 al, ia E (A 11) 60 pp, ia E (A 12) 60 pw, ia E (A 13) 60 ph]) rfl rfl (by decide) (fun _ => rfl) rfl (Nat.le_of_ble_eq_true rfl) dX11_best_3 (fun r_3 u hu_3 => ?_)
  rcases hu_3 with ⟨rfl, l1_3, l2_3⟩ | ⟨rfl, l0_3⟩
  · refine g_if_eq F 24 dX11_best_6 (by decide) (fun h => absurd h (by decide)) (fun _ => ?_)
    obtain ⟨k9, hk1, hk3, rfl⟩ := i32_rng (lo := 1) (hi := 3) (by decide) (by decide) l1_3 l2_3
    refine g_aload_n F 0 rfl dX11_best_9 ?_
    refine g_rVi F (wr := []) [] (c_X11_inBook E A ln pl td zi rf rg co bs zt al pp pw ph n kd rk ps L tN I (hK) (hZ)) (gi_V tw_ml_X11_112 tw_im_X11_inBook tw_se_X11_inBook tw_in_X11 tw_co_X11_inBook) 0 rfl (by decide) ⟨rfl, rfl, by decide, by decide, Nat.zero_le _, Nat.zero_le _⟩ 11 0 rfl rfl [0, 1, 2, 3, 4, 5, 6, 7, 8, 9, 10, 11, 12, 13] [] [0, 1, 2, 3, 4, 5, 6, 7, 8, 9, 10, 11, 12, 13] rfl rfl (by decide) rfl rfl (Nat.le_of_ble_eq_true rfl) dX11_best_10 ?_
    refine g_iload_n F 1 rfl dX11_best_13 ?_
    refine n_icmp_lt F 24 dX11_best_14 (by decide) (by omega) (by omega) (fun c_14 => ?_) (fun c_14 => ?_)
    · refine g_iconst F (-1) (by decide) dX11_best_24 ?_
      exact R _ ((co, bs, al, zt, rf, rg, rk)) _ _ dX11_best_25 (by (try dsimp only); exact (Or.inr ⟨fun k0 h1 h2 h3 h4 => by
          have := (nI_eq (by omega) (by omega)).mp h3
          omega, rfl, rfl, rfl, rfl⟩))
    · refine g_aload_n F 0 rfl dX11_best_17 ?_
      refine g_cVi F (wr := []) [] (c_X11_holds E A ln pl td zi rf rg co bs zt al pp pw ph n kd rk ps L tN I (hK) (hZ)) (gi_V tw_ml_X11_89 tw_im_X11_holds tw_se_X11_holds tw_in_X11 tw_co_X11_holds) 0 rfl (by decide) ⟨rfl, rfl, by decide, by decide, Nat.zero_le _, Nat.zero_le _⟩ 11 0 rfl rfl [0, 1, 2, 3, 4, 5, 6, 7, 8, 9, 10, 11, 12, 13] [] [0, 1, 2, 3, 4, 5, 6, 7, 8, 9, 10, 11, 12, 13] (fun u => [ob (A 0) 11 [.int (nI n), .int (nI kd), .ref (A 1), .ref (A 2), .ref (A 3), .ref (A 4), .int (nI rk), .ref (A 5), .ref (A 6), .ref (A 7), .ref (A 8), .ref (A 9), .ref (A 10), .ref (A 11), .int ps, .ref (A 12), .ref (A 13)], ia E (A 1) 60 ln, ia E (A 2) 480 pl, ia E (A 3) 3600 td, za E (A 4) 60 zi, ia E (A 5) 60 rf, ia E (A 6) 60 rg, ia E (A 7) 81 co, ia E (A 8) 3 u, za E (A 9) 60 zt, ia E (A 10) 3600 al, ia E (A 11) 60 pp, ia E (A 12) 60 pw, ia E (A 13) 60 ph]) rfl rfl (by decide) (fun _ => rfl) rfl (Nat.le_of_ble_eq_true rfl) dX11_best_18 (fun r_18 u hu_18 => ?_)
      revert hu_18; revert u; intro bs2_18 hu_18
      rcases hu_18 with ⟨rfl, hlw⟩ | ⟨rfl, hk5, htb⟩
      · refine g_if_ne F 26 dX11_best_21 (by decide) (fun _ => ?_) (fun h => absurd h (by decide))
        refine g_iconst F (nI 0) (by decide) dX11_best_26 ?_
        refine g_istore_n F 2 [(0, .ref (A 0)), (1, .int (nI k9)), (2, .int (nI 0))] [1, 2, 0] dX11_best_27 rfl (by decide) rfl ?_
        have lp_28 : ∀ (n_28 : Nat) (a0 : Nat) (g : Nat → Int32) (l1 : Nat → Int32), (a0 ≤ n) → (∀ t s, t < a0 → s < n → l1 (t * 60 + s) = nI (dsN kd L pl tN t s)) → n - a0 < n_28 → GW E X 0 0 [ob (A 0) 11 [.int (nI n), .int (nI kd), .ref (A 1), .ref (A 2), .ref (A 3), .ref (A 4), .int (nI rk), .ref (A 5), .ref (A 6), .ref (A 7), .ref (A 8), .ref (A 9), .ref (A 10), .ref (A 11), .int ps, .ref (A 12), .ref (A 13)], ia E (A 1) 60 ln, ia E (A 2) 480 pl, ia E (A 3) 3600 td, za E (A 4) 60 zi, ia E (A 5) 60 rf, ia E (A 6) 60 rg, ia E (A 7) 81 g, ia E (A 8) 3 bs2_18, za E (A 9) 60 zt, ia E (A 10) 3600 l1, ia E (A 11) 60 pp, ia E (A 12) 60 pw, ia E (A 13) 60 ph] [(0, .ref (A 0)), (1, .int (nI k9)), (2, .int (nI a0))] 28 [] := by
          intro n_28
          induction n_28 with
          | zero => intro a0 g l1 ha hl hm_28; exact absurd hm_28 (Nat.not_lt_zero _)
          | succ n_28 ih_28 =>
            intro a0 g l1 ha hl hm_28
            refine g_iload_n F 2 rfl dX11_best_28 ?_
            refine g_aload_n F 0 rfl dX11_best_29 ?_
            refine g_get F 11 0 0 inX11 rfl rfl (by decide) tw_fl_X11_50 rfl dX11_best_30 ?_
            refine n_icmp_ge F 75 dX11_best_33 (by decide) (by omega) (by omega) (fun c_33 => ?_) (fun c_33 => ?_)
            · have hl1 : ∀ t s, t < n → s < n → l1 (t * 60 + s) = nI (dsN kd L pl tN t s) := fun t s h1 h2 => hl t s (by omega) h2
              refine g_iconst F (-1) (by decide) dX11_best_75 ?_
              refine g_istore_n F 2 [(0, .ref (A 0)), (1, .int (nI k9)), (2, .int (-1))] [1, 2, 0] dX11_best_76 rfl (by decide) rfl ?_
              refine g_iconst F (-1) (by decide) dX11_best_77 ?_
              refine g_istore_n F 3 [(0, .ref (A 0)), (1, .int (nI k9)), (2, .int (-1)), (3, .int (-1))] [1, 2, 3, 0] dX11_best_78 rfl (by decide) rfl ?_
              refine g_iconst F (-1) (by decide) dX11_best_79 ?_
              refine g_istore F 4 [(0, .ref (A 0)), (1, .int (nI k9)), (2, .int (-1)), (3, .int (-1)), (4, .int (-1))] [1, 2, 3, 4, 0] dX11_best_80 (by decide) rfl ?_
              refine g_iconst F (-1) (by decide) dX11_best_82 ?_
              refine g_istore F 5 [(0, .ref (A 0)), (1, .int (nI k9)), (2, .int (-1)), (3, .int (-1)), (4, .int (-1)), (5, .int (-1))] [1, 2, 3, 4, 5, 0] dX11_best_83 (by decide) rfl ?_
              refine g_iconst F (nI 0) (by decide) dX11_best_85 ?_
              refine g_istore F 6 [(0, .ref (A 0)), (1, .int (nI k9)), (2, .int (-1)), (3, .int (-1)), (4, .int (-1)), (5, .int (-1)), (6, .int (nI 0))] [1, 2, 3, 4, 5, 6, 0] dX11_best_86 (by decide) rfl ?_
              have lp_88 : ∀ (n_88 : Nat) (a0 : Nat) (w : Int32) (xx : Int32) (yy : Int32) (zz : Int32), (a0 ≤ n) → (B3 (fun x y z => rrN (dsN kd L pl tN) I x y z n) I k9 a0 0 0 w xx yy zz) → n - a0 < n_88 → GW E X 0 0 [ob (A 0) 11 [.int (nI n), .int (nI kd), .ref (A 1), .ref (A 2), .ref (A 3), .ref (A 4), .int (nI rk), .ref (A 5), .ref (A 6), .ref (A 7), .ref (A 8), .ref (A 9), .ref (A 10), .ref (A 11), .int ps, .ref (A 12), .ref (A 13)], ia E (A 1) 60 ln, ia E (A 2) 480 pl, ia E (A 3) 3600 td, za E (A 4) 60 zi, ia E (A 5) 60 rf, ia E (A 6) 60 rg, ia E (A 7) 81 g, ia E (A 8) 3 bs2_18, za E (A 9) 60 zt, ia E (A 10) 3600 l1, ia E (A 11) 60 pp, ia E (A 12) 60 pw, ia E (A 13) 60 ph] [(0, .ref (A 0)), (1, .int (nI k9)), (2, .int w), (3, .int xx), (4, .int yy), (5, .int zz), (6, .int (nI a0))] 88 [] := by
                intro n_88
                induction n_88 with
                | zero => intro a0 w xx yy zz ha hB hm_88; exact absurd hm_88 (Nat.not_lt_zero _)
                | succ n_88 ih_88 =>
                  intro a0 w xx yy zz ha hB hm_88
                  refine g_iload F 6 rfl dX11_best_88 ?_
                  refine g_aload_n F 0 rfl dX11_best_90 ?_
                  refine g_get F 11 0 0 inX11 rfl rfl (by decide) tw_fl_X11_50 rfl dX11_best_91 ?_
                  refine n_icmp_ge F 262 dX11_best_94 (by decide) (by omega) (by omega) (fun c_94 => ?_) (fun c_94 => ?_)
                  · obtain ⟨x0, y0, z0, e1, rfl, rfl, rfl, ht3, -, hmin⟩ := hB.resolve_left (fun z => by
                        obtain ⟨x1, y1, z1, h9⟩ := t3_find (n := n) hk1 hk3 (by omega)
                        exact z.2 x1 y1 z1 h9 (Or.inl (by have := hZ.2 x1 h9.1; omega)))
                    replace e1 : w = nI (rrN (dsN kd L pl tN) I x0 y0 z0 n) := e1
                    subst e1
                    have hbsp := bsp_of3 (n := n) hk1 hk3 hZ.2 hsy hbd ht3 (fun x1 y1 z1 h => hmin x1 y1 z1 h (Or.inl (by have := hZ.2 x1 h.1; omega)))
                    have hx60 := hI60 x0 ht3.1
                    have hy60 := hI60 y0 ht3.2.1
                    have hz60 := hI60 z0 ht3.2.2.1
                    refine g_aload_n F 0 rfl dX11_best_262 ?_
                    refine g_iconst F (nI 0) (by decide) dX11_best_263 ?_
                    refine g_put F 11 0 6 [ob (A 0) 11 [.int (nI n), .int (nI kd), .ref (A 1), .ref (A 2), .ref (A 3), .ref (A 4), .int (nI 0), .ref (A 5), .ref (A 6), .ref (A 7), .ref (A 8), .ref (A 9), .ref (A 10), .ref (A 11), .int ps, .ref (A 12), .ref (A 13)], ia E (A 1) 60 ln, ia E (A 2) 480 pl, ia E (A 3) 3600 td, za E (A 4) 60 zi, ia E (A 5) 60 rf, ia E (A 6) 60 rg, ia E (A 7) 81 g, ia E (A 8) 3 bs2_18, za E (A 9) 60 zt, ia E (A 10) 3600 l1, ia E (A 11) 60 pp, ia E (A 12) 60 pw, ia E (A 13) 60 ph] inX11 tyX11_ok nmX11 rfl rfl (by decide) tw_fl_X11_93 rfl rfl rfl rfl (Nat.le_of_ble_eq_true rfl) rfl dX11_best_264 ?_
                    refine g_aload_n F 0 rfl dX11_best_267 ?_
                    refine g_iload_n F 3 rfl dX11_best_268 ?_
                    refine g_iconst F (nI 0) (by decide) dX11_best_269 ?_
                    refine g_cVv F (wr := []) [] (c_X11_gives E A ln pl td zi rf rg g bs2_18 zt l1 pp pw ph n kd 0 ps L tN I x0 (nI 0) (hK) (hZ) (by omega) (by omega)) (gi_V tw_ml_X11_103 tw_im_X11_gives tw_se_X11_gives tw_in_X11 tw_co_X11_gives) 2 rfl (by decide) ⟨rfl, rfl, by decide, by decide, Nat.zero_le _, Nat.zero_le _⟩ 11 0 rfl rfl [0, 1, 2, 3, 4, 5, 6, 7, 8, 9, 10, 11, 12, 13] [] [0, 1, 2, 3, 4, 5, 6, 7, 8, 9, 10, 11, 12, 13] (fun u => [ob (A 0) 11 [.int (nI n), .int (nI kd), .ref (A 1), .ref (A 2), .ref (A 3), .ref (A 4), .int (nI (0 + 1)), .ref (A 5), .ref (A 6), .ref (A 7), .ref (A 8), .ref (A 9), .ref (A 10), .ref (A 11), .int ps, .ref (A 12), .ref (A 13)], ia E (A 1) 60 ln, ia E (A 2) 480 pl, ia E (A 3) 3600 td, za E (A 4) 60 zi, ia E (A 5) 60 (upd rf 0 (nI x0)), ia E (A 6) 60 (upd rg 0 (nI 0)), ia E (A 7) 81 g, ia E (A 8) 3 bs2_18, za E (A 9) 60 (upd zt x0 (nI 1)), ia E (A 10) 3600 l1, ia E (A 11) 60 pp, ia E (A 12) 60 pw, ia E (A 13) 60 ph]) rfl rfl (by decide) (fun _ => rfl) rfl (Nat.le_of_ble_eq_true rfl) dX11_best_270 (fun u hu_270 => ?_)
                    refine g_iload_n F 1 rfl dX11_best_273 ?_
                    refine g_iconst F (nI 1) (by decide) dX11_best_274 ?_
                    refine n_icmp_le F 285 dX11_best_275 (by decide) (by omega) (by omega) (fun c_275 => ?_) (fun c_275 => ?_)
                    · refine g_iload_n F 1 rfl dX11_best_285 ?_
                      refine g_iconst F (nI 2) (by decide) dX11_best_286 ?_
                      refine n_icmp_le F 297 dX11_best_287 (by decide) (by omega) (by omega) (fun c_287 => ?_) (fun c_287 => absurd c_287 (by omega))
                      refine g_iload_n F 2 rfl dX11_best_297 ?_
                      exact R _ ((g, bs2_18, l1, upd zt x0 (nI 1), upd rf 0 (nI x0), upd rg 0 (nI 0), 0 + 1)) _ _ dX11_best_298 (by (try dsimp only); exact (Or.inl ⟨k9, hk1, hk3, rfl, by omega, hlw, t3 x0 y0 z0, rrN (dsN kd L pl tN) I x0 y0 z0 n, hbsp, rfl, by omega, fun j hj => by
                          obtain rfl : j = 0 := by omega
                          exact ⟨rfl, rfl⟩⟩))
                    · refine g_aload_n F 0 rfl dX11_best_278 ?_
                      refine g_iload F 4 rfl dX11_best_279 ?_
                      refine g_iconst F (nI 0) (by decide) dX11_best_281 ?_
                      refine g_cVv F (wr := []) [] (c_X11_gives E A ln pl td zi (upd rf 0 (nI x0)) (upd rg 0 (nI 0)) g bs2_18 (upd zt x0 (nI 1)) l1 pp pw ph n kd (0 + 1) ps L tN I y0 (nI 0) (hK) (hZ) (by omega) (by omega)) (gi_V tw_ml_X11_103 tw_im_X11_gives tw_se_X11_gives tw_in_X11 tw_co_X11_gives) 2 rfl (by decide) ⟨rfl, rfl, by decide, by decide, Nat.zero_le _, Nat.zero_le _⟩ 11 0 rfl rfl [0, 1, 2, 3, 4, 5, 6, 7, 8, 9, 10, 11, 12, 13] [] [0, 1, 2, 3, 4, 5, 6, 7, 8, 9, 10, 11, 12, 13] (fun u => [ob (A 0) 11 [.int (nI n), .int (nI kd), .ref (A 1), .ref (A 2), .ref (A 3), .ref (A 4), .int (nI ((0 + 1) + 1)), .ref (A 5), .ref (A 6), .ref (A 7), .ref (A 8), .ref (A 9), .ref (A 10), .ref (A 11), .int ps, .ref (A 12), .ref (A 13)], ia E (A 1) 60 ln, ia E (A 2) 480 pl, ia E (A 3) 3600 td, za E (A 4) 60 zi, ia E (A 5) 60 (upd (upd rf 0 (nI x0)) (0 + 1) (nI y0)), ia E (A 6) 60 (upd (upd rg 0 (nI 0)) (0 + 1) (nI 0)), ia E (A 7) 81 g, ia E (A 8) 3 bs2_18, za E (A 9) 60 (upd (upd zt x0 (nI 1)) y0 (nI 1)), ia E (A 10) 3600 l1, ia E (A 11) 60 pp, ia E (A 12) 60 pw, ia E (A 13) 60 ph]) rfl rfl (by decide) (fun _ => rfl) rfl (Nat.le_of_ble_eq_true rfl) dX11_best_282 (fun u hu_282 => ?_)
                      refine g_iload_n F 1 rfl dX11_best_285 ?_
                      refine g_iconst F (nI 2) (by decide) dX11_best_286 ?_
                      refine n_icmp_le F 297 dX11_best_287 (by decide) (by omega) (by omega) (fun c_287 => ?_) (fun c_287 => ?_)
                      · refine g_iload_n F 2 rfl dX11_best_297 ?_
                        exact R _ ((g, bs2_18, l1, upd (upd zt x0 (nI 1)) y0 (nI 1), upd (upd rf 0 (nI x0)) (0 + 1) (nI y0), upd (upd rg 0 (nI 0)) (0 + 1) (nI 0), (0 + 1) + 1)) _ _ dX11_best_298 (by (try dsimp only); exact (Or.inl ⟨k9, hk1, hk3, rfl, by omega, hlw, t3 x0 y0 z0, rrN (dsN kd L pl tN) I x0 y0 z0 n, hbsp, rfl, by omega, fun j hj => by
                            rcases (show j = 0 ∨ j = 1 by omega) with rfl | rfl <;> exact ⟨rfl, rfl⟩⟩))
                      · refine g_aload_n F 0 rfl dX11_best_290 ?_
                        refine g_iload F 5 rfl dX11_best_291 ?_
                        refine g_iconst F (nI 0) (by decide) dX11_best_293 ?_
                        refine g_cVv F (wr := []) [] (c_X11_gives E A ln pl td zi (upd (upd rf 0 (nI x0)) (0 + 1) (nI y0)) (upd (upd rg 0 (nI 0)) (0 + 1) (nI 0)) g bs2_18 (upd (upd zt x0 (nI 1)) y0 (nI 1)) l1 pp pw ph n kd ((0 + 1) + 1) ps L tN I z0 (nI 0) (hK) (hZ) (by omega) (by omega)) (gi_V tw_ml_X11_103 tw_im_X11_gives tw_se_X11_gives tw_in_X11 tw_co_X11_gives) 2 rfl (by decide) ⟨rfl, rfl, by decide, by decide, Nat.zero_le _, Nat.zero_le _⟩ 11 0 rfl rfl [0, 1, 2, 3, 4, 5, 6, 7, 8, 9, 10, 11, 12, 13] [] [0, 1, 2, 3, 4, 5, 6, 7, 8, 9, 10, 11, 12, 13] (fun u => [ob (A 0) 11 [.int (nI n), .int (nI kd), .ref (A 1), .ref (A 2), .ref (A 3), .ref (A 4), .int (nI (((0 + 1) + 1) + 1)), .ref (A 5), .ref (A 6), .ref (A 7), .ref (A 8), .ref (A 9), .ref (A 10), .ref (A 11), .int ps, .ref (A 12), .ref (A 13)], ia E (A 1) 60 ln, ia E (A 2) 480 pl, ia E (A 3) 3600 td, za E (A 4) 60 zi, ia E (A 5) 60 (upd (upd (upd rf 0 (nI x0)) (0 + 1) (nI y0)) ((0 + 1) + 1) (nI z0)), ia E (A 6) 60 (upd (upd (upd rg 0 (nI 0)) (0 + 1) (nI 0)) ((0 + 1) + 1) (nI 0)), ia E (A 7) 81 g, ia E (A 8) 3 bs2_18, za E (A 9) 60 (upd (upd (upd zt x0 (nI 1)) y0 (nI 1)) z0 (nI 1)), ia E (A 10) 3600 l1, ia E (A 11) 60 pp, ia E (A 12) 60 pw, ia E (A 13) 60 ph]) rfl rfl (by decide) (fun _ => rfl) rfl (Nat.le_of_ble_eq_true rfl) dX11_best_294 (fun u hu_294 => ?_)
                        refine g_iload_n F 2 rfl dX11_best_297 ?_
                        exact R _ ((g, bs2_18, l1, upd (upd (upd zt x0 (nI 1)) y0 (nI 1)) z0 (nI 1), upd (upd (upd rf 0 (nI x0)) (0 + 1) (nI y0)) ((0 + 1) + 1) (nI z0), upd (upd (upd rg 0 (nI 0)) (0 + 1) (nI 0)) ((0 + 1) + 1) (nI 0), ((0 + 1) + 1) + 1)) _ _ dX11_best_298 (by (try dsimp only); exact (Or.inl ⟨k9, hk1, hk3, rfl, by omega, hlw, t3 x0 y0 z0, rrN (dsN kd L pl tN) I x0 y0 z0 n, hbsp, rfl, by omega, fun j hj => by
                            rcases (show j = 0 ∨ j = 1 ∨ j = 2 by omega) with rfl | rfl | rfl <;> exact ⟨rfl, rfl⟩⟩))
                  · refine g_iload_n F 1 rfl dX11_best_97 ?_
                    refine g_iconst F (nI 1) (by decide) dX11_best_98 ?_
                    refine n_icmp_le F 109 dX11_best_99 (by decide) (by omega) (by omega) (fun c_99 => ?_) (fun c_99 => ?_)
                    · refine g_iload F 6 rfl dX11_best_109 ?_
                      refine g_istore F 7 [(0, .ref (A 0)), (1, .int (nI k9)), (2, .int w), (3, .int xx), (4, .int yy), (5, .int zz), (6, .int (nI a0)), (7, .int (nI a0))] [1, 2, 3, 4, 5, 6, 7, 0] dX11_best_111 (by decide) rfl ?_
                      have lp_113 : ∀ (n_113 : Nat) (b0 : Nat) (w : Int32) (xx : Int32) (yy : Int32) (zz : Int32), (a0 ≤ b0 ∧ b0 ≤ n) → (1 < k9 → a0 < b0) → (B3 (fun x y z => rrN (dsN kd L pl tN) I x y z n) I k9 a0 b0 0 w xx yy zz) → n - b0 < n_113 → GW E X 0 0 [ob (A 0) 11 [.int (nI n), .int (nI kd), .ref (A 1), .ref (A 2), .ref (A 3), .ref (A 4), .int (nI rk), .ref (A 5), .ref (A 6), .ref (A 7), .ref (A 8), .ref (A 9), .ref (A 10), .ref (A 11), .int ps, .ref (A 12), .ref (A 13)], ia E (A 1) 60 ln, ia E (A 2) 480 pl, ia E (A 3) 3600 td, za E (A 4) 60 zi, ia E (A 5) 60 rf, ia E (A 6) 60 rg, ia E (A 7) 81 g, ia E (A 8) 3 bs2_18, za E (A 9) 60 zt, ia E (A 10) 3600 l1, ia E (A 11) 60 pp, ia E (A 12) 60 pw, ia E (A 13) 60 ph] [(0, .ref (A 0)), (1, .int (nI k9)), (2, .int w), (3, .int xx), (4, .int yy), (5, .int zz), (6, .int (nI a0)), (7, .int (nI b0))] 113 [] := by
                        intro n_113
                        induction n_113 with
                        | zero => intro b0 w xx yy zz hb hb1 hB2 hm_113; exact absurd hm_113 (Nat.not_lt_zero _)
                        | succ n_113 ih_113 =>
                          intro b0 w xx yy zz hb hb1 hB2 hm_113
                          refine g_iload F 7 rfl dX11_best_113 ?_
                          refine g_aload_n F 0 rfl dX11_best_115 ?_
                          refine g_get F 11 0 0 inX11 rfl rfl (by decide) tw_fl_X11_50 rfl dX11_best_116 ?_
                          refine n_icmp_ge F 256 dX11_best_119 (by decide) (by omega) (by omega) (fun c_119 => ?_) (fun c_119 => ?_)
                          · refine g_iinc F (nI (a0 + 1)) 6 6 [(0, .ref (A 0)), (1, .int (nI k9)), (2, .int w), (3, .int xx), (4, .int yy), (5, .int zz), (6, .int (nI (a0 + 1))), (7, .int (nI b0))] [1, 2, 3, 4, 5, 6, 0, 7] dX11_best_256 rfl (n_inc a0) (by decide) rfl ?_
                            refine g_goto F 88 dX11_best_259 (by decide) ?_
                            refine g_lv [0, 1, 2, 3, 4, 5, 6] [(0, .ref (A 0)), (1, .int (nI k9)), (2, .int w), (3, .int xx), (4, .int yy), (5, .int zz), (6, .int (nI (a0 + 1)))] rfl ?_
                            exact ih_88 (a0 + 1) w xx yy zz (by omega) (b3_re hB2 (fun x1 y1 z1 t9 => by
                                obtain ⟨i1, i2, i3, h4, h5⟩ := t9
                                have q1 := hZ.2 _ i1
                                have q2 := hZ.2 _ i2
                                have q3 := hZ.2 _ i3
                                unfold D3
                                omega)) (by omega)
                          · refine g_iload_n F 1 rfl dX11_best_122 ?_
                            refine g_iconst F (nI 1) (by decide) dX11_best_123 ?_
                            refine n_icmp_gt F 134 dX11_best_124 (by decide) (by omega) (by omega) (fun c_124 => absurd c_124 (by omega)) (fun c_124 => ?_)
                            refine g_iload F 7 rfl dX11_best_127 ?_
                            refine g_iload F 6 rfl dX11_best_129 ?_
                            refine n_icmp_ne F 256 dX11_best_131 (by decide) (by omega) (by omega) (fun c_131 => ?_) (fun c_131 => ?_)
                            · refine g_iinc F (nI (a0 + 1)) 6 6 [(0, .ref (A 0)), (1, .int (nI k9)), (2, .int w), (3, .int xx), (4, .int yy), (5, .int zz), (6, .int (nI (a0 + 1))), (7, .int (nI b0))] [1, 2, 3, 4, 5, 6, 0, 7] dX11_best_256 rfl (n_inc a0) (by decide) rfl ?_
                              refine g_goto F 88 dX11_best_259 (by decide) ?_
                              refine g_lv [0, 1, 2, 3, 4, 5, 6] [(0, .ref (A 0)), (1, .int (nI k9)), (2, .int w), (3, .int xx), (4, .int yy), (5, .int zz), (6, .int (nI (a0 + 1)))] rfl ?_
                              exact ih_88 (a0 + 1) w xx yy zz (by omega) (b3_re hB2 (fun x1 y1 z1 t9 => by
                                  obtain ⟨i1, i2, i3, h4, h5⟩ := t9
                                  have q1 := hZ.2 _ i1
                                  have q2 := hZ.2 _ i2
                                  have q3 := hZ.2 _ i3
                                  unfold D3
                                  omega)) (by omega)
                            · refine g_iload_n F 1 rfl dX11_best_134 ?_
                              refine g_iconst F (nI 2) (by decide) dX11_best_135 ?_
                              refine n_icmp_le F 146 dX11_best_136 (by decide) (by omega) (by omega) (fun c_136 => ?_) (fun c_136 => absurd c_136 (by omega))
                              refine g_iload F 7 rfl dX11_best_146 ?_
                              refine g_istore F 8 [(0, .ref (A 0)), (1, .int (nI k9)), (2, .int w), (3, .int xx), (4, .int yy), (5, .int zz), (6, .int (nI a0)), (7, .int (nI b0)), (8, .int (nI b0))] [1, 2, 3, 4, 5, 6, 7, 8, 0] dX11_best_148 (by decide) rfl ?_
                              have lp_150 : ∀ (n_150 : Nat) (c0 : Nat) (w : Int32) (xx : Int32) (yy : Int32) (zz : Int32), (b0 ≤ c0 ∧ c0 ≤ n) → (2 < k9 → b0 < c0) → (B3 (fun x y z => rrN (dsN kd L pl tN) I x y z n) I k9 a0 b0 c0 w xx yy zz) → n - c0 < n_150 → GW E X 0 0 [ob (A 0) 11 [.int (nI n), .int (nI kd), .ref (A 1), .ref (A 2), .ref (A 3), .ref (A 4), .int (nI rk), .ref (A 5), .ref (A 6), .ref (A 7), .ref (A 8), .ref (A 9), .ref (A 10), .ref (A 11), .int ps, .ref (A 12), .ref (A 13)], ia E (A 1) 60 ln, ia E (A 2) 480 pl, ia E (A 3) 3600 td, za E (A 4) 60 zi, ia E (A 5) 60 rf, ia E (A 6) 60 rg, ia E (A 7) 81 g, ia E (A 8) 3 bs2_18, za E (A 9) 60 zt, ia E (A 10) 3600 l1, ia E (A 11) 60 pp, ia E (A 12) 60 pw, ia E (A 13) 60 ph] [(0, .ref (A 0)), (1, .int (nI k9)), (2, .int w), (3, .int xx), (4, .int yy), (5, .int zz), (6, .int (nI a0)), (7, .int (nI b0)), (8, .int (nI c0))] 150 [] := by
                                intro n_150
                                induction n_150 with
                                | zero => intro c0 w xx yy zz hc hc1 hB3 hm_150; exact absurd hm_150 (Nat.not_lt_zero _)
                                | succ n_150 ih_150 =>
                                  intro c0 w xx yy zz hc hc1 hB3 hm_150
                                  refine g_iload F 8 rfl dX11_best_150 ?_
                                  refine g_aload_n F 0 rfl dX11_best_152 ?_
                                  refine g_get F 11 0 0 inX11 rfl rfl (by decide) tw_fl_X11_50 rfl dX11_best_153 ?_
                                  refine n_icmp_ge F 250 dX11_best_156 (by decide) (by omega) (by omega) (fun c_156 => ?_) (fun c_156 => ?_)
                                  · refine g_iinc F (nI (b0 + 1)) 7 7 [(0, .ref (A 0)), (1, .int (nI k9)), (2, .int w), (3, .int xx), (4, .int yy), (5, .int zz), (6, .int (nI a0)), (7, .int (nI (b0 + 1))), (8, .int (nI c0))] [1, 2, 3, 4, 5, 6, 7, 0, 8] dX11_best_250 rfl (n_inc b0) (by decide) rfl ?_
                                    refine g_goto F 113 dX11_best_253 (by decide) ?_
                                    refine g_lv [0, 1, 2, 3, 4, 5, 6, 7] [(0, .ref (A 0)), (1, .int (nI k9)), (2, .int w), (3, .int xx), (4, .int yy), (5, .int zz), (6, .int (nI a0)), (7, .int (nI (b0 + 1)))] rfl ?_
                                    exact ih_113 (b0 + 1) w xx yy zz (by omega) (by omega) (b3_re hB3 (fun x1 y1 z1 t9 => by
                                        obtain ⟨i1, i2, i3, h4, h5⟩ := t9
                                        have q1 := hZ.2 _ i1
                                        have q2 := hZ.2 _ i2
                                        have q3 := hZ.2 _ i3
                                        unfold D3
                                        omega)) (by omega)
                                  · refine g_iload_n F 1 rfl dX11_best_159 ?_
                                    refine g_iconst F (nI 2) (by decide) dX11_best_160 ?_
                                    refine n_icmp_gt F 171 dX11_best_161 (by decide) (by omega) (by omega) (fun c_161 => absurd c_161 (by omega)) (fun c_161 => ?_)
                                    refine g_iload F 8 rfl dX11_best_164 ?_
                                    refine g_iload F 7 rfl dX11_best_166 ?_
                                    refine n_icmp_ne F 250 dX11_best_168 (by decide) (by omega) (by omega) (fun c_168 => ?_) (fun c_168 => ?_)
                                    · refine g_iinc F (nI (b0 + 1)) 7 7 [(0, .ref (A 0)), (1, .int (nI k9)), (2, .int w), (3, .int xx), (4, .int yy), (5, .int zz), (6, .int (nI a0)), (7, .int (nI (b0 + 1))), (8, .int (nI c0))] [1, 2, 3, 4, 5, 6, 7, 0, 8] dX11_best_250 rfl (n_inc b0) (by decide) rfl ?_
                                      refine g_goto F 113 dX11_best_253 (by decide) ?_
                                      refine g_lv [0, 1, 2, 3, 4, 5, 6, 7] [(0, .ref (A 0)), (1, .int (nI k9)), (2, .int w), (3, .int xx), (4, .int yy), (5, .int zz), (6, .int (nI a0)), (7, .int (nI (b0 + 1)))] rfl ?_
                                      exact ih_113 (b0 + 1) w xx yy zz (by omega) (by omega) (b3_re hB3 (fun x1 y1 z1 t9 => by
                                          obtain ⟨i1, i2, i3, h4, h5⟩ := t9
                                          have q1 := hZ.2 _ i1
                                          have q2 := hZ.2 _ i2
                                          have q3 := hZ.2 _ i3
                                          unfold D3
                                          omega)) (by omega)
                                    · refine g_aload_n F 0 rfl dX11_best_171 ?_
                                      refine g_get F 11 0 5 inX11 rfl rfl (by decide) tw_fl_X11_19 rfl dX11_best_172 ?_
                                      refine g_iload F 6 rfl dX11_best_175 ?_
                                      refine g_zald F 4 rfl (by omega) (by decide) dX11_best_177 ?_
                                      refine g_top (bI (I a0)) (hZ.1 a0 (by omega)) ?_
                                      refine b_if_eq F 244 dX11_best_178 (by decide) (fun c_178 => ?_) (fun c_178 => ?_)
                                      · refine g_iinc F (nI (c0 + 1)) 8 8 [(0, .ref (A 0)), (1, .int (nI k9)), (2, .int w), (3, .int xx), (4, .int yy), (5, .int zz), (6, .int (nI a0)), (7, .int (nI b0)), (8, .int (nI (c0 + 1)))] [1, 2, 3, 4, 5, 6, 7, 8, 0] dX11_best_244 rfl (n_inc c0) (by decide) rfl ?_
                                        refine g_goto F 150 dX11_best_247 (by decide) ?_
                                        exact ih_150 (c0 + 1) w xx yy zz (by omega) (by omega) (b3_skip hB3 (fun z => by have q9 := z.1; rw [c_178] at q9; cases q9)) (by omega)
                                      · refine g_aload_n F 0 rfl dX11_best_181 ?_
                                        refine g_get F 11 0 5 inX11 rfl rfl (by decide) tw_fl_X11_19 rfl dX11_best_182 ?_
                                        refine g_iload F 7 rfl dX11_best_185 ?_
                                        refine g_zald F 4 rfl (by omega) (by decide) dX11_best_187 ?_
                                        refine g_top (bI (I b0)) (hZ.1 b0 (by omega)) ?_
                                        refine b_if_eq F 244 dX11_best_188 (by decide) (fun c_188 => ?_) (fun c_188 => ?_)
                                        · refine g_iinc F (nI (c0 + 1)) 8 8 [(0, .ref (A 0)), (1, .int (nI k9)), (2, .int w), (3, .int xx), (4, .int yy), (5, .int zz), (6, .int (nI a0)), (7, .int (nI b0)), (8, .int (nI (c0 + 1)))] [1, 2, 3, 4, 5, 6, 7, 8, 0] dX11_best_244 rfl (n_inc c0) (by decide) rfl ?_
                                          refine g_goto F 150 dX11_best_247 (by decide) ?_
                                          exact ih_150 (c0 + 1) w xx yy zz (by omega) (by omega) (b3_skip hB3 (fun z => by have q9 := z.2.1; rw [c_188] at q9; cases q9)) (by omega)
                                        · refine g_aload_n F 0 rfl dX11_best_191 ?_
                                          refine g_get F 11 0 5 inX11 rfl rfl (by decide) tw_fl_X11_19 rfl dX11_best_192 ?_
                                          refine g_iload F 8 rfl dX11_best_195 ?_
                                          refine g_zald F 4 rfl (by omega) (by decide) dX11_best_197 ?_
                                          refine g_top (bI (I c0)) (hZ.1 c0 (by omega)) ?_
                                          refine b_if_ne F 204 dX11_best_198 (by decide) (fun c_198 => ?_) (fun c_198 => ?_)
                                          · have ht3 : T3 I k9 a0 b0 c0 := ⟨c_178, c_188, c_198, by omega, by omega⟩
                                            have hrl : ∀ x y z, I x = true → rrN (dsN kd L pl tN) I x y z n ≤ 100000 := fun x y z hx => rr_le (fun t h => hbd t x h hx) n
                                            have hra := hrl a0 b0 c0 c_178
                                            refine g_aload_n F 0 rfl dX11_best_204 ?_
                                            refine g_iload F 6 rfl dX11_best_205 ?_
                                            refine g_iload F 7 rfl dX11_best_207 ?_
                                            refine g_iload F 8 rfl dX11_best_209 ?_
                                            refine g_rVi F (wr := []) [] (c_X11_radiusOf E A ln pl td zi rf rg g bs2_18 zt l1 pp pw ph n kd rk ps L tN I a0 b0 c0 (hK) (hZ) (by omega) (by omega) (by omega) (hl1)) (gi_V tw_ml_X11_122 tw_im_X11_radiusOf tw_se_X11_radiusOf tw_in_X11 tw_co_X11_radiusOf) 3 rfl (by decide) ⟨rfl, rfl, by decide, by decide, Nat.zero_le _, Nat.zero_le _⟩ 11 0 rfl rfl [0, 1, 2, 3, 4, 5, 6, 7, 8, 9, 10, 11, 12, 13] [] [0, 1, 2, 3, 4, 5, 6, 7, 8, 9, 10, 11, 12, 13] rfl rfl (by decide) rfl rfl (Nat.le_of_ble_eq_true rfl) dX11_best_211 ?_
                                            refine g_istore F 9 [(0, .ref (A 0)), (1, .int (nI k9)), (2, .int w), (3, .int xx), (4, .int yy), (5, .int zz), (6, .int (nI a0)), (7, .int (nI b0)), (8, .int (nI c0)), (9, .int (nI (rrN (dsN kd L pl tN) I a0 b0 c0 n)))] [1, 2, 3, 4, 5, 6, 7, 8, 9, 0] dX11_best_214 (by decide) rfl ?_
                                            refine g_iload_n F 2 rfl dX11_best_216 ?_
                                            refine g_iconst F (-1) (by decide) dX11_best_217 ?_
                                            refine g_icmp_eq F 230 dX11_best_218 (by decide) (fun c_218 => ?_) (fun c_218 => ?_)
                                            · refine g_iload F 9 rfl dX11_best_230 ?_
                                              refine g_istore_n F 2 [(0, .ref (A 0)), (1, .int (nI k9)), (2, .int (nI (rrN (dsN kd L pl tN) I a0 b0 c0 n))), (3, .int xx), (4, .int yy), (5, .int zz), (6, .int (nI a0)), (7, .int (nI b0)), (8, .int (nI c0)), (9, .int (nI (rrN (dsN kd L pl tN) I a0 b0 c0 n)))] [1, 2, 0, 3, 4, 5, 6, 7, 8, 9] dX11_best_232 rfl (by decide) rfl ?_
                                              refine g_iload F 6 rfl dX11_best_233 ?_
                                              refine g_istore_n F 3 [(0, .ref (A 0)), (1, .int (nI k9)), (2, .int (nI (rrN (dsN kd L pl tN) I a0 b0 c0 n))), (3, .int (nI a0)), (4, .int yy), (5, .int zz), (6, .int (nI a0)), (7, .int (nI b0)), (8, .int (nI c0)), (9, .int (nI (rrN (dsN kd L pl tN) I a0 b0 c0 n)))] [1, 2, 3, 0, 4, 5, 6, 7, 8, 9] dX11_best_235 rfl (by decide) rfl ?_
                                              refine g_iload F 7 rfl dX11_best_236 ?_
                                              refine g_istore F 4 [(0, .ref (A 0)), (1, .int (nI k9)), (2, .int (nI (rrN (dsN kd L pl tN) I a0 b0 c0 n))), (3, .int (nI a0)), (4, .int (nI b0)), (5, .int zz), (6, .int (nI a0)), (7, .int (nI b0)), (8, .int (nI c0)), (9, .int (nI (rrN (dsN kd L pl tN) I a0 b0 c0 n)))] [1, 2, 3, 4, 0, 5, 6, 7, 8, 9] dX11_best_238 (by decide) rfl ?_
                                              refine g_iload F 8 rfl dX11_best_240 ?_
                                              refine g_istore F 5 [(0, .ref (A 0)), (1, .int (nI k9)), (2, .int (nI (rrN (dsN kd L pl tN) I a0 b0 c0 n))), (3, .int (nI a0)), (4, .int (nI b0)), (5, .int (nI c0)), (6, .int (nI a0)), (7, .int (nI b0)), (8, .int (nI c0)), (9, .int (nI (rrN (dsN kd L pl tN) I a0 b0 c0 n)))] [1, 2, 3, 4, 5, 0, 6, 7, 8, 9] dX11_best_242 (by decide) rfl ?_
                                              refine g_iinc F (nI (c0 + 1)) 8 8 [(0, .ref (A 0)), (1, .int (nI k9)), (2, .int (nI (rrN (dsN kd L pl tN) I a0 b0 c0 n))), (3, .int (nI a0)), (4, .int (nI b0)), (5, .int (nI c0)), (6, .int (nI a0)), (7, .int (nI b0)), (8, .int (nI (c0 + 1))), (9, .int (nI (rrN (dsN kd L pl tN) I a0 b0 c0 n)))] [1, 2, 3, 4, 5, 6, 7, 8, 0, 9] dX11_best_244 rfl (n_inc c0) (by decide) rfl ?_
                                              refine g_goto F 150 dX11_best_247 (by decide) ?_
                                              refine g_lv [0, 1, 2, 3, 4, 5, 6, 7, 8] [(0, .ref (A 0)), (1, .int (nI k9)), (2, .int (nI (rrN (dsN kd L pl tN) I a0 b0 c0 n))), (3, .int (nI a0)), (4, .int (nI b0)), (5, .int (nI c0)), (6, .int (nI a0)), (7, .int (nI b0)), (8, .int (nI (c0 + 1)))] rfl ?_
                                              exact ih_150 (c0 + 1) (nI (rrN (dsN kd L pl tN) I a0 b0 c0 n)) (nI a0) (nI b0) (nI c0) (by omega) (by omega) (b3_first hB3 c_218 (fun x y z hx => Nat.lt_of_le_of_lt (hrl x y z hx) (by decide)) ht3) (by omega)
                                            · obtain ⟨x0, y0, z0, e1, rfl, rfl, rfl, h5, h6, h7⟩ := hB3.resolve_left (fun z => c_218 z.1)
                                              replace e1 : w = nI (rrN (dsN kd L pl tN) I x0 y0 z0 n) := e1
                                              subst e1
                                              have hrb := hrl x0 y0 z0 h5.1
                                              refine g_iload F 9 rfl dX11_best_221 ?_
                                              refine g_iload_n F 2 rfl dX11_best_223 ?_
                                              refine n_icmp_lt F 230 dX11_best_224 (by decide) (by omega) (by omega) (fun c_224 => ?_) (fun c_224 => ?_)
                                              · refine g_iload F 9 rfl dX11_best_230 ?_
                                                refine g_istore_n F 2 [(0, .ref (A 0)), (1, .int (nI k9)), (2, .int (nI (rrN (dsN kd L pl tN) I a0 b0 c0 n))), (3, .int (nI x0)), (4, .int (nI y0)), (5, .int (nI z0)), (6, .int (nI a0)), (7, .int (nI b0)), (8, .int (nI c0)), (9, .int (nI (rrN (dsN kd L pl tN) I a0 b0 c0 n)))] [1, 2, 0, 3, 4, 5, 6, 7, 8, 9] dX11_best_232 rfl (by decide) rfl ?_
                                                refine g_iload F 6 rfl dX11_best_233 ?_
                                                refine g_istore_n F 3 [(0, .ref (A 0)), (1, .int (nI k9)), (2, .int (nI (rrN (dsN kd L pl tN) I a0 b0 c0 n))), (3, .int (nI a0)), (4, .int (nI y0)), (5, .int (nI z0)), (6, .int (nI a0)), (7, .int (nI b0)), (8, .int (nI c0)), (9, .int (nI (rrN (dsN kd L pl tN) I a0 b0 c0 n)))] [1, 2, 3, 0, 4, 5, 6, 7, 8, 9] dX11_best_235 rfl (by decide) rfl ?_
                                                refine g_iload F 7 rfl dX11_best_236 ?_
                                                refine g_istore F 4 [(0, .ref (A 0)), (1, .int (nI k9)), (2, .int (nI (rrN (dsN kd L pl tN) I a0 b0 c0 n))), (3, .int (nI a0)), (4, .int (nI b0)), (5, .int (nI z0)), (6, .int (nI a0)), (7, .int (nI b0)), (8, .int (nI c0)), (9, .int (nI (rrN (dsN kd L pl tN) I a0 b0 c0 n)))] [1, 2, 3, 4, 0, 5, 6, 7, 8, 9] dX11_best_238 (by decide) rfl ?_
                                                refine g_iload F 8 rfl dX11_best_240 ?_
                                                refine g_istore F 5 [(0, .ref (A 0)), (1, .int (nI k9)), (2, .int (nI (rrN (dsN kd L pl tN) I a0 b0 c0 n))), (3, .int (nI a0)), (4, .int (nI b0)), (5, .int (nI c0)), (6, .int (nI a0)), (7, .int (nI b0)), (8, .int (nI c0)), (9, .int (nI (rrN (dsN kd L pl tN) I a0 b0 c0 n)))] [1, 2, 3, 4, 5, 0, 6, 7, 8, 9] dX11_best_242 (by decide) rfl ?_
                                                refine g_iinc F (nI (c0 + 1)) 8 8 [(0, .ref (A 0)), (1, .int (nI k9)), (2, .int (nI (rrN (dsN kd L pl tN) I a0 b0 c0 n))), (3, .int (nI a0)), (4, .int (nI b0)), (5, .int (nI c0)), (6, .int (nI a0)), (7, .int (nI b0)), (8, .int (nI (c0 + 1))), (9, .int (nI (rrN (dsN kd L pl tN) I a0 b0 c0 n)))] [1, 2, 3, 4, 5, 6, 7, 8, 0, 9] dX11_best_244 rfl (n_inc c0) (by decide) rfl ?_
                                                refine g_goto F 150 dX11_best_247 (by decide) ?_
                                                refine g_lv [0, 1, 2, 3, 4, 5, 6, 7, 8] [(0, .ref (A 0)), (1, .int (nI k9)), (2, .int (nI (rrN (dsN kd L pl tN) I a0 b0 c0 n))), (3, .int (nI a0)), (4, .int (nI b0)), (5, .int (nI c0)), (6, .int (nI a0)), (7, .int (nI b0)), (8, .int (nI (c0 + 1)))] rfl ?_
                                                exact ih_150 (c0 + 1) (nI (rrN (dsN kd L pl tN) I a0 b0 c0 n)) (nI a0) (nI b0) (nI c0) (by omega) (by omega) (b3_less (RR := (fun x y z => rrN (dsN kd L pl tN) I x y z n)) ht3 h7 c_224) (by omega)
                                              · refine g_goto F 244 dX11_best_227 (by decide) ?_
                                                refine g_iinc F (nI (c0 + 1)) 8 8 [(0, .ref (A 0)), (1, .int (nI k9)), (2, .int (nI (rrN (dsN kd L pl tN) I x0 y0 z0 n))), (3, .int (nI x0)), (4, .int (nI y0)), (5, .int (nI z0)), (6, .int (nI a0)), (7, .int (nI b0)), (8, .int (nI (c0 + 1))), (9, .int (nI (rrN (dsN kd L pl tN) I a0 b0 c0 n)))] [1, 2, 3, 4, 5, 6, 7, 8, 0, 9] dX11_best_244 rfl (n_inc c0) (by decide) rfl ?_
                                                refine g_goto F 150 dX11_best_247 (by decide) ?_
                                                refine g_lv [0, 1, 2, 3, 4, 5, 6, 7, 8] [(0, .ref (A 0)), (1, .int (nI k9)), (2, .int (nI (rrN (dsN kd L pl tN) I x0 y0 z0 n))), (3, .int (nI x0)), (4, .int (nI y0)), (5, .int (nI z0)), (6, .int (nI a0)), (7, .int (nI b0)), (8, .int (nI (c0 + 1)))] rfl ?_
                                                exact ih_150 (c0 + 1) (nI (rrN (dsN kd L pl tN) I x0 y0 z0 n)) (nI x0) (nI y0) (nI z0) (by omega) (by omega) (b3_keep (RR := (fun x y z => rrN (dsN kd L pl tN) I x y z n)) h5 h6 h7 (by omega)) (by omega)
                                          · refine g_goto F 244 dX11_best_201 (by decide) ?_
                                            refine g_iinc F (nI (c0 + 1)) 8 8 [(0, .ref (A 0)), (1, .int (nI k9)), (2, .int w), (3, .int xx), (4, .int yy), (5, .int zz), (6, .int (nI a0)), (7, .int (nI b0)), (8, .int (nI (c0 + 1)))] [1, 2, 3, 4, 5, 6, 7, 8, 0] dX11_best_244 rfl (n_inc c0) (by decide) rfl ?_
                                            refine g_goto F 150 dX11_best_247 (by decide) ?_
                                            exact ih_150 (c0 + 1) w xx yy zz (by omega) (by omega) (b3_skip hB3 (fun z => by have q9 := z.2.2.1; rw [c_198] at q9; cases q9)) (by omega)
                              exact lp_150 _ b0 w xx yy zz (by omega) (by omega) (b3_re hB2 (fun x1 y1 z1 t9 => by
                                  obtain ⟨i1, i2, i3, h4, h5⟩ := t9
                                  have q1 := hZ.2 _ i1
                                  have q2 := hZ.2 _ i2
                                  have q3 := hZ.2 _ i3
                                  unfold D3
                                  omega)) (Nat.lt_succ_self _)
                      exact lp_113 _ a0 w xx yy zz (by omega) (by omega) (b3_re hB (fun x1 y1 z1 t9 => by
                          obtain ⟨i1, i2, i3, h4, h5⟩ := t9
                          have q1 := hZ.2 _ i1
                          have q2 := hZ.2 _ i2
                          have q3 := hZ.2 _ i3
                          unfold D3
                          omega)) (Nat.lt_succ_self _)
                    · refine g_iload F 6 rfl dX11_best_102 ?_
                      refine g_iconst F (nI 1) (by decide) dX11_best_104 ?_
                      refine n_add F dX11_best_105 ?_
                      refine g_goto F 111 dX11_best_106 (by decide) ?_
                      refine g_istore F 7 [(0, .ref (A 0)), (1, .int (nI k9)), (2, .int w), (3, .int xx), (4, .int yy), (5, .int zz), (6, .int (nI a0)), (7, .int (nI (a0 + 1)))] [1, 2, 3, 4, 5, 6, 7, 0] dX11_best_111 (by decide) rfl ?_
                      have lp_113 : ∀ (n_113 : Nat) (b0 : Nat) (w : Int32) (xx : Int32) (yy : Int32) (zz : Int32), (a0 ≤ b0 ∧ b0 ≤ n) → (1 < k9 → a0 < b0) → (B3 (fun x y z => rrN (dsN kd L pl tN) I x y z n) I k9 a0 b0 0 w xx yy zz) → n - b0 < n_113 → GW E X 0 0 [ob (A 0) 11 [.int (nI n), .int (nI kd), .ref (A 1), .ref (A 2), .ref (A 3), .ref (A 4), .int (nI rk), .ref (A 5), .ref (A 6), .ref (A 7), .ref (A 8), .ref (A 9), .ref (A 10), .ref (A 11), .int ps, .ref (A 12), .ref (A 13)], ia E (A 1) 60 ln, ia E (A 2) 480 pl, ia E (A 3) 3600 td, za E (A 4) 60 zi, ia E (A 5) 60 rf, ia E (A 6) 60 rg, ia E (A 7) 81 g, ia E (A 8) 3 bs2_18, za E (A 9) 60 zt, ia E (A 10) 3600 l1, ia E (A 11) 60 pp, ia E (A 12) 60 pw, ia E (A 13) 60 ph] [(0, .ref (A 0)), (1, .int (nI k9)), (2, .int w), (3, .int xx), (4, .int yy), (5, .int zz), (6, .int (nI a0)), (7, .int (nI b0))] 113 [] := by
                        intro n_113
                        induction n_113 with
                        | zero => intro b0 w xx yy zz hb hb1 hB2 hm_113; exact absurd hm_113 (Nat.not_lt_zero _)
                        | succ n_113 ih_113 =>
                          intro b0 w xx yy zz hb hb1 hB2 hm_113
                          refine g_iload F 7 rfl dX11_best_113 ?_
                          refine g_aload_n F 0 rfl dX11_best_115 ?_
                          refine g_get F 11 0 0 inX11 rfl rfl (by decide) tw_fl_X11_50 rfl dX11_best_116 ?_
                          refine n_icmp_ge F 256 dX11_best_119 (by decide) (by omega) (by omega) (fun c_119 => ?_) (fun c_119 => ?_)
                          · refine g_iinc F (nI (a0 + 1)) 6 6 [(0, .ref (A 0)), (1, .int (nI k9)), (2, .int w), (3, .int xx), (4, .int yy), (5, .int zz), (6, .int (nI (a0 + 1))), (7, .int (nI b0))] [1, 2, 3, 4, 5, 6, 0, 7] dX11_best_256 rfl (n_inc a0) (by decide) rfl ?_
                            refine g_goto F 88 dX11_best_259 (by decide) ?_
                            refine g_lv [0, 1, 2, 3, 4, 5, 6] [(0, .ref (A 0)), (1, .int (nI k9)), (2, .int w), (3, .int xx), (4, .int yy), (5, .int zz), (6, .int (nI (a0 + 1)))] rfl ?_
                            exact ih_88 (a0 + 1) w xx yy zz (by omega) (b3_re hB2 (fun x1 y1 z1 t9 => by
                                obtain ⟨i1, i2, i3, h4, h5⟩ := t9
                                have q1 := hZ.2 _ i1
                                have q2 := hZ.2 _ i2
                                have q3 := hZ.2 _ i3
                                unfold D3
                                omega)) (by omega)
                          · refine g_iload_n F 1 rfl dX11_best_122 ?_
                            refine g_iconst F (nI 1) (by decide) dX11_best_123 ?_
                            refine n_icmp_gt F 134 dX11_best_124 (by decide) (by omega) (by omega) (fun c_124 => ?_) (fun c_124 => absurd c_124 (by omega))
                            refine g_iload_n F 1 rfl dX11_best_134 ?_
                            refine g_iconst F (nI 2) (by decide) dX11_best_135 ?_
                            refine n_icmp_le F 146 dX11_best_136 (by decide) (by omega) (by omega) (fun c_136 => ?_) (fun c_136 => ?_)
                            · refine g_iload F 7 rfl dX11_best_146 ?_
                              refine g_istore F 8 [(0, .ref (A 0)), (1, .int (nI k9)), (2, .int w), (3, .int xx), (4, .int yy), (5, .int zz), (6, .int (nI a0)), (7, .int (nI b0)), (8, .int (nI b0))] [1, 2, 3, 4, 5, 6, 7, 8, 0] dX11_best_148 (by decide) rfl ?_
                              have lp_150 : ∀ (n_150 : Nat) (c0 : Nat) (w : Int32) (xx : Int32) (yy : Int32) (zz : Int32), (b0 ≤ c0 ∧ c0 ≤ n) → (2 < k9 → b0 < c0) → (B3 (fun x y z => rrN (dsN kd L pl tN) I x y z n) I k9 a0 b0 c0 w xx yy zz) → n - c0 < n_150 → GW E X 0 0 [ob (A 0) 11 [.int (nI n), .int (nI kd), .ref (A 1), .ref (A 2), .ref (A 3), .ref (A 4), .int (nI rk), .ref (A 5), .ref (A 6), .ref (A 7), .ref (A 8), .ref (A 9), .ref (A 10), .ref (A 11), .int ps, .ref (A 12), .ref (A 13)], ia E (A 1) 60 ln, ia E (A 2) 480 pl, ia E (A 3) 3600 td, za E (A 4) 60 zi, ia E (A 5) 60 rf, ia E (A 6) 60 rg, ia E (A 7) 81 g, ia E (A 8) 3 bs2_18, za E (A 9) 60 zt, ia E (A 10) 3600 l1, ia E (A 11) 60 pp, ia E (A 12) 60 pw, ia E (A 13) 60 ph] [(0, .ref (A 0)), (1, .int (nI k9)), (2, .int w), (3, .int xx), (4, .int yy), (5, .int zz), (6, .int (nI a0)), (7, .int (nI b0)), (8, .int (nI c0))] 150 [] := by
                                intro n_150
                                induction n_150 with
                                | zero => intro c0 w xx yy zz hc hc1 hB3 hm_150; exact absurd hm_150 (Nat.not_lt_zero _)
                                | succ n_150 ih_150 =>
                                  intro c0 w xx yy zz hc hc1 hB3 hm_150
                                  refine g_iload F 8 rfl dX11_best_150 ?_
                                  refine g_aload_n F 0 rfl dX11_best_152 ?_
                                  refine g_get F 11 0 0 inX11 rfl rfl (by decide) tw_fl_X11_50 rfl dX11_best_153 ?_
                                  refine n_icmp_ge F 250 dX11_best_156 (by decide) (by omega) (by omega) (fun c_156 => ?_) (fun c_156 => ?_)
                                  · refine g_iinc F (nI (b0 + 1)) 7 7 [(0, .ref (A 0)), (1, .int (nI k9)), (2, .int w), (3, .int xx), (4, .int yy), (5, .int zz), (6, .int (nI a0)), (7, .int (nI (b0 + 1))), (8, .int (nI c0))] [1, 2, 3, 4, 5, 6, 7, 0, 8] dX11_best_250 rfl (n_inc b0) (by decide) rfl ?_
                                    refine g_goto F 113 dX11_best_253 (by decide) ?_
                                    refine g_lv [0, 1, 2, 3, 4, 5, 6, 7] [(0, .ref (A 0)), (1, .int (nI k9)), (2, .int w), (3, .int xx), (4, .int yy), (5, .int zz), (6, .int (nI a0)), (7, .int (nI (b0 + 1)))] rfl ?_
                                    exact ih_113 (b0 + 1) w xx yy zz (by omega) (by omega) (b3_re hB3 (fun x1 y1 z1 t9 => by
                                        obtain ⟨i1, i2, i3, h4, h5⟩ := t9
                                        have q1 := hZ.2 _ i1
                                        have q2 := hZ.2 _ i2
                                        have q3 := hZ.2 _ i3
                                        unfold D3
                                        omega)) (by omega)
                                  · refine g_iload_n F 1 rfl dX11_best_159 ?_
                                    refine g_iconst F (nI 2) (by decide) dX11_best_160 ?_
                                    refine n_icmp_gt F 171 dX11_best_161 (by decide) (by omega) (by omega) (fun c_161 => absurd c_161 (by omega)) (fun c_161 => ?_)
                                    refine g_iload F 8 rfl dX11_best_164 ?_
                                    refine g_iload F 7 rfl dX11_best_166 ?_
                                    refine n_icmp_ne F 250 dX11_best_168 (by decide) (by omega) (by omega) (fun c_168 => ?_) (fun c_168 => ?_)
                                    · refine g_iinc F (nI (b0 + 1)) 7 7 [(0, .ref (A 0)), (1, .int (nI k9)), (2, .int w), (3, .int xx), (4, .int yy), (5, .int zz), (6, .int (nI a0)), (7, .int (nI (b0 + 1))), (8, .int (nI c0))] [1, 2, 3, 4, 5, 6, 7, 0, 8] dX11_best_250 rfl (n_inc b0) (by decide) rfl ?_
                                      refine g_goto F 113 dX11_best_253 (by decide) ?_
                                      refine g_lv [0, 1, 2, 3, 4, 5, 6, 7] [(0, .ref (A 0)), (1, .int (nI k9)), (2, .int w), (3, .int xx), (4, .int yy), (5, .int zz), (6, .int (nI a0)), (7, .int (nI (b0 + 1)))] rfl ?_
                                      exact ih_113 (b0 + 1) w xx yy zz (by omega) (by omega) (b3_re hB3 (fun x1 y1 z1 t9 => by
                                          obtain ⟨i1, i2, i3, h4, h5⟩ := t9
                                          have q1 := hZ.2 _ i1
                                          have q2 := hZ.2 _ i2
                                          have q3 := hZ.2 _ i3
                                          unfold D3
                                          omega)) (by omega)
                                    · refine g_aload_n F 0 rfl dX11_best_171 ?_
                                      refine g_get F 11 0 5 inX11 rfl rfl (by decide) tw_fl_X11_19 rfl dX11_best_172 ?_
                                      refine g_iload F 6 rfl dX11_best_175 ?_
                                      refine g_zald F 4 rfl (by omega) (by decide) dX11_best_177 ?_
                                      refine g_top (bI (I a0)) (hZ.1 a0 (by omega)) ?_
                                      refine b_if_eq F 244 dX11_best_178 (by decide) (fun c_178 => ?_) (fun c_178 => ?_)
                                      · refine g_iinc F (nI (c0 + 1)) 8 8 [(0, .ref (A 0)), (1, .int (nI k9)), (2, .int w), (3, .int xx), (4, .int yy), (5, .int zz), (6, .int (nI a0)), (7, .int (nI b0)), (8, .int (nI (c0 + 1)))] [1, 2, 3, 4, 5, 6, 7, 8, 0] dX11_best_244 rfl (n_inc c0) (by decide) rfl ?_
                                        refine g_goto F 150 dX11_best_247 (by decide) ?_
                                        exact ih_150 (c0 + 1) w xx yy zz (by omega) (by omega) (b3_skip hB3 (fun z => by have q9 := z.1; rw [c_178] at q9; cases q9)) (by omega)
                                      · refine g_aload_n F 0 rfl dX11_best_181 ?_
                                        refine g_get F 11 0 5 inX11 rfl rfl (by decide) tw_fl_X11_19 rfl dX11_best_182 ?_
                                        refine g_iload F 7 rfl dX11_best_185 ?_
                                        refine g_zald F 4 rfl (by omega) (by decide) dX11_best_187 ?_
                                        refine g_top (bI (I b0)) (hZ.1 b0 (by omega)) ?_
                                        refine b_if_eq F 244 dX11_best_188 (by decide) (fun c_188 => ?_) (fun c_188 => ?_)
                                        · refine g_iinc F (nI (c0 + 1)) 8 8 [(0, .ref (A 0)), (1, .int (nI k9)), (2, .int w), (3, .int xx), (4, .int yy), (5, .int zz), (6, .int (nI a0)), (7, .int (nI b0)), (8, .int (nI (c0 + 1)))] [1, 2, 3, 4, 5, 6, 7, 8, 0] dX11_best_244 rfl (n_inc c0) (by decide) rfl ?_
                                          refine g_goto F 150 dX11_best_247 (by decide) ?_
                                          exact ih_150 (c0 + 1) w xx yy zz (by omega) (by omega) (b3_skip hB3 (fun z => by have q9 := z.2.1; rw [c_188] at q9; cases q9)) (by omega)
                                        · refine g_aload_n F 0 rfl dX11_best_191 ?_
                                          refine g_get F 11 0 5 inX11 rfl rfl (by decide) tw_fl_X11_19 rfl dX11_best_192 ?_
                                          refine g_iload F 8 rfl dX11_best_195 ?_
                                          refine g_zald F 4 rfl (by omega) (by decide) dX11_best_197 ?_
                                          refine g_top (bI (I c0)) (hZ.1 c0 (by omega)) ?_
                                          refine b_if_ne F 204 dX11_best_198 (by decide) (fun c_198 => ?_) (fun c_198 => ?_)
                                          · have ht3 : T3 I k9 a0 b0 c0 := ⟨c_178, c_188, c_198, by omega, by omega⟩
                                            have hrl : ∀ x y z, I x = true → rrN (dsN kd L pl tN) I x y z n ≤ 100000 := fun x y z hx => rr_le (fun t h => hbd t x h hx) n
                                            have hra := hrl a0 b0 c0 c_178
                                            refine g_aload_n F 0 rfl dX11_best_204 ?_
                                            refine g_iload F 6 rfl dX11_best_205 ?_
                                            refine g_iload F 7 rfl dX11_best_207 ?_
                                            refine g_iload F 8 rfl dX11_best_209 ?_
                                            refine g_rVi F (wr := []) [] (c_X11_radiusOf E A ln pl td zi rf rg g bs2_18 zt l1 pp pw ph n kd rk ps L tN I a0 b0 c0 (hK) (hZ) (by omega) (by omega) (by omega) (hl1)) (gi_V tw_ml_X11_122 tw_im_X11_radiusOf tw_se_X11_radiusOf tw_in_X11 tw_co_X11_radiusOf) 3 rfl (by decide) ⟨rfl, rfl, by decide, by decide, Nat.zero_le _, Nat.zero_le _⟩ 11 0 rfl rfl [0, 1, 2, 3, 4, 5, 6, 7, 8, 9, 10, 11, 12, 13] [] [0, 1, 2, 3, 4, 5, 6, 7, 8, 9, 10, 11, 12, 13] rfl rfl (by decide) rfl rfl (Nat.le_of_ble_eq_true rfl) dX11_best_211 ?_
                                            refine g_istore F 9 [(0, .ref (A 0)), (1, .int (nI k9)), (2, .int w), (3, .int xx), (4, .int yy), (5, .int zz), (6, .int (nI a0)), (7, .int (nI b0)), (8, .int (nI c0)), (9, .int (nI (rrN (dsN kd L pl tN) I a0 b0 c0 n)))] [1, 2, 3, 4, 5, 6, 7, 8, 9, 0] dX11_best_214 (by decide) rfl ?_
                                            refine g_iload_n F 2 rfl dX11_best_216 ?_
                                            refine g_iconst F (-1) (by decide) dX11_best_217 ?_
                                            refine g_icmp_eq F 230 dX11_best_218 (by decide) (fun c_218 => ?_) (fun c_218 => ?_)
                                            · refine g_iload F 9 rfl dX11_best_230 ?_
                                              refine g_istore_n F 2 [(0, .ref (A 0)), (1, .int (nI k9)), (2, .int (nI (rrN (dsN kd L pl tN) I a0 b0 c0 n))), (3, .int xx), (4, .int yy), (5, .int zz), (6, .int (nI a0)), (7, .int (nI b0)), (8, .int (nI c0)), (9, .int (nI (rrN (dsN kd L pl tN) I a0 b0 c0 n)))] [1, 2, 0, 3, 4, 5, 6, 7, 8, 9] dX11_best_232 rfl (by decide) rfl ?_
                                              refine g_iload F 6 rfl dX11_best_233 ?_
                                              refine g_istore_n F 3 [(0, .ref (A 0)), (1, .int (nI k9)), (2, .int (nI (rrN (dsN kd L pl tN) I a0 b0 c0 n))), (3, .int (nI a0)), (4, .int yy), (5, .int zz), (6, .int (nI a0)), (7, .int (nI b0)), (8, .int (nI c0)), (9, .int (nI (rrN (dsN kd L pl tN) I a0 b0 c0 n)))] [1, 2, 3, 0, 4, 5, 6, 7, 8, 9] dX11_best_235 rfl (by decide) rfl ?_
                                              refine g_iload F 7 rfl dX11_best_236 ?_
                                              refine g_istore F 4 [(0, .ref (A 0)), (1, .int (nI k9)), (2, .int (nI (rrN (dsN kd L pl tN) I a0 b0 c0 n))), (3, .int (nI a0)), (4, .int (nI b0)), (5, .int zz), (6, .int (nI a0)), (7, .int (nI b0)), (8, .int (nI c0)), (9, .int (nI (rrN (dsN kd L pl tN) I a0 b0 c0 n)))] [1, 2, 3, 4, 0, 5, 6, 7, 8, 9] dX11_best_238 (by decide) rfl ?_
                                              refine g_iload F 8 rfl dX11_best_240 ?_
                                              refine g_istore F 5 [(0, .ref (A 0)), (1, .int (nI k9)), (2, .int (nI (rrN (dsN kd L pl tN) I a0 b0 c0 n))), (3, .int (nI a0)), (4, .int (nI b0)), (5, .int (nI c0)), (6, .int (nI a0)), (7, .int (nI b0)), (8, .int (nI c0)), (9, .int (nI (rrN (dsN kd L pl tN) I a0 b0 c0 n)))] [1, 2, 3, 4, 5, 0, 6, 7, 8, 9] dX11_best_242 (by decide) rfl ?_
                                              refine g_iinc F (nI (c0 + 1)) 8 8 [(0, .ref (A 0)), (1, .int (nI k9)), (2, .int (nI (rrN (dsN kd L pl tN) I a0 b0 c0 n))), (3, .int (nI a0)), (4, .int (nI b0)), (5, .int (nI c0)), (6, .int (nI a0)), (7, .int (nI b0)), (8, .int (nI (c0 + 1))), (9, .int (nI (rrN (dsN kd L pl tN) I a0 b0 c0 n)))] [1, 2, 3, 4, 5, 6, 7, 8, 0, 9] dX11_best_244 rfl (n_inc c0) (by decide) rfl ?_
                                              refine g_goto F 150 dX11_best_247 (by decide) ?_
                                              refine g_lv [0, 1, 2, 3, 4, 5, 6, 7, 8] [(0, .ref (A 0)), (1, .int (nI k9)), (2, .int (nI (rrN (dsN kd L pl tN) I a0 b0 c0 n))), (3, .int (nI a0)), (4, .int (nI b0)), (5, .int (nI c0)), (6, .int (nI a0)), (7, .int (nI b0)), (8, .int (nI (c0 + 1)))] rfl ?_
                                              exact ih_150 (c0 + 1) (nI (rrN (dsN kd L pl tN) I a0 b0 c0 n)) (nI a0) (nI b0) (nI c0) (by omega) (by omega) (b3_first hB3 c_218 (fun x y z hx => Nat.lt_of_le_of_lt (hrl x y z hx) (by decide)) ht3) (by omega)
                                            · obtain ⟨x0, y0, z0, e1, rfl, rfl, rfl, h5, h6, h7⟩ := hB3.resolve_left (fun z => c_218 z.1)
                                              replace e1 : w = nI (rrN (dsN kd L pl tN) I x0 y0 z0 n) := e1
                                              subst e1
                                              have hrb := hrl x0 y0 z0 h5.1
                                              refine g_iload F 9 rfl dX11_best_221 ?_
                                              refine g_iload_n F 2 rfl dX11_best_223 ?_
                                              refine n_icmp_lt F 230 dX11_best_224 (by decide) (by omega) (by omega) (fun c_224 => ?_) (fun c_224 => ?_)
                                              · refine g_iload F 9 rfl dX11_best_230 ?_
                                                refine g_istore_n F 2 [(0, .ref (A 0)), (1, .int (nI k9)), (2, .int (nI (rrN (dsN kd L pl tN) I a0 b0 c0 n))), (3, .int (nI x0)), (4, .int (nI y0)), (5, .int (nI z0)), (6, .int (nI a0)), (7, .int (nI b0)), (8, .int (nI c0)), (9, .int (nI (rrN (dsN kd L pl tN) I a0 b0 c0 n)))] [1, 2, 0, 3, 4, 5, 6, 7, 8, 9] dX11_best_232 rfl (by decide) rfl ?_
                                                refine g_iload F 6 rfl dX11_best_233 ?_
                                                refine g_istore_n F 3 [(0, .ref (A 0)), (1, .int (nI k9)), (2, .int (nI (rrN (dsN kd L pl tN) I a0 b0 c0 n))), (3, .int (nI a0)), (4, .int (nI y0)), (5, .int (nI z0)), (6, .int (nI a0)), (7, .int (nI b0)), (8, .int (nI c0)), (9, .int (nI (rrN (dsN kd L pl tN) I a0 b0 c0 n)))] [1, 2, 3, 0, 4, 5, 6, 7, 8, 9] dX11_best_235 rfl (by decide) rfl ?_
                                                refine g_iload F 7 rfl dX11_best_236 ?_
                                                refine g_istore F 4 [(0, .ref (A 0)), (1, .int (nI k9)), (2, .int (nI (rrN (dsN kd L pl tN) I a0 b0 c0 n))), (3, .int (nI a0)), (4, .int (nI b0)), (5, .int (nI z0)), (6, .int (nI a0)), (7, .int (nI b0)), (8, .int (nI c0)), (9, .int (nI (rrN (dsN kd L pl tN) I a0 b0 c0 n)))] [1, 2, 3, 4, 0, 5, 6, 7, 8, 9] dX11_best_238 (by decide) rfl ?_
                                                refine g_iload F 8 rfl dX11_best_240 ?_
                                                refine g_istore F 5 [(0, .ref (A 0)), (1, .int (nI k9)), (2, .int (nI (rrN (dsN kd L pl tN) I a0 b0 c0 n))), (3, .int (nI a0)), (4, .int (nI b0)), (5, .int (nI c0)), (6, .int (nI a0)), (7, .int (nI b0)), (8, .int (nI c0)), (9, .int (nI (rrN (dsN kd L pl tN) I a0 b0 c0 n)))] [1, 2, 3, 4, 5, 0, 6, 7, 8, 9] dX11_best_242 (by decide) rfl ?_
                                                refine g_iinc F (nI (c0 + 1)) 8 8 [(0, .ref (A 0)), (1, .int (nI k9)), (2, .int (nI (rrN (dsN kd L pl tN) I a0 b0 c0 n))), (3, .int (nI a0)), (4, .int (nI b0)), (5, .int (nI c0)), (6, .int (nI a0)), (7, .int (nI b0)), (8, .int (nI (c0 + 1))), (9, .int (nI (rrN (dsN kd L pl tN) I a0 b0 c0 n)))] [1, 2, 3, 4, 5, 6, 7, 8, 0, 9] dX11_best_244 rfl (n_inc c0) (by decide) rfl ?_
                                                refine g_goto F 150 dX11_best_247 (by decide) ?_
                                                refine g_lv [0, 1, 2, 3, 4, 5, 6, 7, 8] [(0, .ref (A 0)), (1, .int (nI k9)), (2, .int (nI (rrN (dsN kd L pl tN) I a0 b0 c0 n))), (3, .int (nI a0)), (4, .int (nI b0)), (5, .int (nI c0)), (6, .int (nI a0)), (7, .int (nI b0)), (8, .int (nI (c0 + 1)))] rfl ?_
                                                exact ih_150 (c0 + 1) (nI (rrN (dsN kd L pl tN) I a0 b0 c0 n)) (nI a0) (nI b0) (nI c0) (by omega) (by omega) (b3_less (RR := (fun x y z => rrN (dsN kd L pl tN) I x y z n)) ht3 h7 c_224) (by omega)
                                              · refine g_goto F 244 dX11_best_227 (by decide) ?_
                                                refine g_iinc F (nI (c0 + 1)) 8 8 [(0, .ref (A 0)), (1, .int (nI k9)), (2, .int (nI (rrN (dsN kd L pl tN) I x0 y0 z0 n))), (3, .int (nI x0)), (4, .int (nI y0)), (5, .int (nI z0)), (6, .int (nI a0)), (7, .int (nI b0)), (8, .int (nI (c0 + 1))), (9, .int (nI (rrN (dsN kd L pl tN) I a0 b0 c0 n)))] [1, 2, 3, 4, 5, 6, 7, 8, 0, 9] dX11_best_244 rfl (n_inc c0) (by decide) rfl ?_
                                                refine g_goto F 150 dX11_best_247 (by decide) ?_
                                                refine g_lv [0, 1, 2, 3, 4, 5, 6, 7, 8] [(0, .ref (A 0)), (1, .int (nI k9)), (2, .int (nI (rrN (dsN kd L pl tN) I x0 y0 z0 n))), (3, .int (nI x0)), (4, .int (nI y0)), (5, .int (nI z0)), (6, .int (nI a0)), (7, .int (nI b0)), (8, .int (nI (c0 + 1)))] rfl ?_
                                                exact ih_150 (c0 + 1) (nI (rrN (dsN kd L pl tN) I x0 y0 z0 n)) (nI x0) (nI y0) (nI z0) (by omega) (by omega) (b3_keep (RR := (fun x y z => rrN (dsN kd L pl tN) I x y z n)) h5 h6 h7 (by omega)) (by omega)
                                          · refine g_goto F 244 dX11_best_201 (by decide) ?_
                                            refine g_iinc F (nI (c0 + 1)) 8 8 [(0, .ref (A 0)), (1, .int (nI k9)), (2, .int w), (3, .int xx), (4, .int yy), (5, .int zz), (6, .int (nI a0)), (7, .int (nI b0)), (8, .int (nI (c0 + 1)))] [1, 2, 3, 4, 5, 6, 7, 8, 0] dX11_best_244 rfl (n_inc c0) (by decide) rfl ?_
                                            refine g_goto F 150 dX11_best_247 (by decide) ?_
                                            exact ih_150 (c0 + 1) w xx yy zz (by omega) (by omega) (b3_skip hB3 (fun z => by have q9 := z.2.2.1; rw [c_198] at q9; cases q9)) (by omega)
                              exact lp_150 _ b0 w xx yy zz (by omega) (by omega) (b3_re hB2 (fun x1 y1 z1 t9 => by
                                  obtain ⟨i1, i2, i3, h4, h5⟩ := t9
                                  have q1 := hZ.2 _ i1
                                  have q2 := hZ.2 _ i2
                                  have q3 := hZ.2 _ i3
                                  unfold D3
                                  omega)) (Nat.lt_succ_self _)
                            · refine g_iload F 7 rfl dX11_best_139 ?_
                              refine g_iconst F (nI 1) (by decide) dX11_best_141 ?_
                              refine n_add F dX11_best_142 ?_
                              refine g_goto F 148 dX11_best_143 (by decide) ?_
                              refine g_istore F 8 [(0, .ref (A 0)), (1, .int (nI k9)), (2, .int w), (3, .int xx), (4, .int yy), (5, .int zz), (6, .int (nI a0)), (7, .int (nI b0)), (8, .int (nI (b0 + 1)))] [1, 2, 3, 4, 5, 6, 7, 8, 0] dX11_best_148 (by decide) rfl ?_
                              have lp_150 : ∀ (n_150 : Nat) (c0 : Nat) (w : Int32) (xx : Int32) (yy : Int32) (zz : Int32), (b0 ≤ c0 ∧ c0 ≤ n) → (2 < k9 → b0 < c0) → (B3 (fun x y z => rrN (dsN kd L pl tN) I x y z n) I k9 a0 b0 c0 w xx yy zz) → n - c0 < n_150 → GW E X 0 0 [ob (A 0) 11 [.int (nI n), .int (nI kd), .ref (A 1), .ref (A 2), .ref (A 3), .ref (A 4), .int (nI rk), .ref (A 5), .ref (A 6), .ref (A 7), .ref (A 8), .ref (A 9), .ref (A 10), .ref (A 11), .int ps, .ref (A 12), .ref (A 13)], ia E (A 1) 60 ln, ia E (A 2) 480 pl, ia E (A 3) 3600 td, za E (A 4) 60 zi, ia E (A 5) 60 rf, ia E (A 6) 60 rg, ia E (A 7) 81 g, ia E (A 8) 3 bs2_18, za E (A 9) 60 zt, ia E (A 10) 3600 l1, ia E (A 11) 60 pp, ia E (A 12) 60 pw, ia E (A 13) 60 ph] [(0, .ref (A 0)), (1, .int (nI k9)), (2, .int w), (3, .int xx), (4, .int yy), (5, .int zz), (6, .int (nI a0)), (7, .int (nI b0)), (8, .int (nI c0))] 150 [] := by
                                intro n_150
                                induction n_150 with
                                | zero => intro c0 w xx yy zz hc hc1 hB3 hm_150; exact absurd hm_150 (Nat.not_lt_zero _)
                                | succ n_150 ih_150 =>
                                  intro c0 w xx yy zz hc hc1 hB3 hm_150
                                  refine g_iload F 8 rfl dX11_best_150 ?_
                                  refine g_aload_n F 0 rfl dX11_best_152 ?_
                                  refine g_get F 11 0 0 inX11 rfl rfl (by decide) tw_fl_X11_50 rfl dX11_best_153 ?_
                                  refine n_icmp_ge F 250 dX11_best_156 (by decide) (by omega) (by omega) (fun c_156 => ?_) (fun c_156 => ?_)
                                  · refine g_iinc F (nI (b0 + 1)) 7 7 [(0, .ref (A 0)), (1, .int (nI k9)), (2, .int w), (3, .int xx), (4, .int yy), (5, .int zz), (6, .int (nI a0)), (7, .int (nI (b0 + 1))), (8, .int (nI c0))] [1, 2, 3, 4, 5, 6, 7, 0, 8] dX11_best_250 rfl (n_inc b0) (by decide) rfl ?_
                                    refine g_goto F 113 dX11_best_253 (by decide) ?_
                                    refine g_lv [0, 1, 2, 3, 4, 5, 6, 7] [(0, .ref (A 0)), (1, .int (nI k9)), (2, .int w), (3, .int xx), (4, .int yy), (5, .int zz), (6, .int (nI a0)), (7, .int (nI (b0 + 1)))] rfl ?_
                                    exact ih_113 (b0 + 1) w xx yy zz (by omega) (by omega) (b3_re hB3 (fun x1 y1 z1 t9 => by
                                        obtain ⟨i1, i2, i3, h4, h5⟩ := t9
                                        have q1 := hZ.2 _ i1
                                        have q2 := hZ.2 _ i2
                                        have q3 := hZ.2 _ i3
                                        unfold D3
                                        omega)) (by omega)
                                  · refine g_iload_n F 1 rfl dX11_best_159 ?_
                                    refine g_iconst F (nI 2) (by decide) dX11_best_160 ?_
                                    refine n_icmp_gt F 171 dX11_best_161 (by decide) (by omega) (by omega) (fun c_161 => ?_) (fun c_161 => absurd c_161 (by omega))
                                    refine g_aload_n F 0 rfl dX11_best_171 ?_
                                    refine g_get F 11 0 5 inX11 rfl rfl (by decide) tw_fl_X11_19 rfl dX11_best_172 ?_
                                    refine g_iload F 6 rfl dX11_best_175 ?_
                                    refine g_zald F 4 rfl (by omega) (by decide) dX11_best_177 ?_
                                    refine g_top (bI (I a0)) (hZ.1 a0 (by omega)) ?_
                                    refine b_if_eq F 244 dX11_best_178 (by decide) (fun c_178 => ?_) (fun c_178 => ?_)
                                    · refine g_iinc F (nI (c0 + 1)) 8 8 [(0, .ref (A 0)), (1, .int (nI k9)), (2, .int w), (3, .int xx), (4, .int yy), (5, .int zz), (6, .int (nI a0)), (7, .int (nI b0)), (8, .int (nI (c0 + 1)))] [1, 2, 3, 4, 5, 6, 7, 8, 0] dX11_best_244 rfl (n_inc c0) (by decide) rfl ?_
                                      refine g_goto F 150 dX11_best_247 (by decide) ?_
                                      exact ih_150 (c0 + 1) w xx yy zz (by omega) (by omega) (b3_skip hB3 (fun z => by have q9 := z.1; rw [c_178] at q9; cases q9)) (by omega)
                                    · refine g_aload_n F 0 rfl dX11_best_181 ?_
                                      refine g_get F 11 0 5 inX11 rfl rfl (by decide) tw_fl_X11_19 rfl dX11_best_182 ?_
                                      refine g_iload F 7 rfl dX11_best_185 ?_
                                      refine g_zald F 4 rfl (by omega) (by decide) dX11_best_187 ?_
                                      refine g_top (bI (I b0)) (hZ.1 b0 (by omega)) ?_
                                      refine b_if_eq F 244 dX11_best_188 (by decide) (fun c_188 => ?_) (fun c_188 => ?_)
                                      · refine g_iinc F (nI (c0 + 1)) 8 8 [(0, .ref (A 0)), (1, .int (nI k9)), (2, .int w), (3, .int xx), (4, .int yy), (5, .int zz), (6, .int (nI a0)), (7, .int (nI b0)), (8, .int (nI (c0 + 1)))] [1, 2, 3, 4, 5, 6, 7, 8, 0] dX11_best_244 rfl (n_inc c0) (by decide) rfl ?_
                                        refine g_goto F 150 dX11_best_247 (by decide) ?_
                                        exact ih_150 (c0 + 1) w xx yy zz (by omega) (by omega) (b3_skip hB3 (fun z => by have q9 := z.2.1; rw [c_188] at q9; cases q9)) (by omega)
                                      · refine g_aload_n F 0 rfl dX11_best_191 ?_
                                        refine g_get F 11 0 5 inX11 rfl rfl (by decide) tw_fl_X11_19 rfl dX11_best_192 ?_
                                        refine g_iload F 8 rfl dX11_best_195 ?_
                                        refine g_zald F 4 rfl (by omega) (by decide) dX11_best_197 ?_
                                        refine g_top (bI (I c0)) (hZ.1 c0 (by omega)) ?_
                                        refine b_if_ne F 204 dX11_best_198 (by decide) (fun c_198 => ?_) (fun c_198 => ?_)
                                        · have ht3 : T3 I k9 a0 b0 c0 := ⟨c_178, c_188, c_198, by omega, by omega⟩
                                          have hrl : ∀ x y z, I x = true → rrN (dsN kd L pl tN) I x y z n ≤ 100000 := fun x y z hx => rr_le (fun t h => hbd t x h hx) n
                                          have hra := hrl a0 b0 c0 c_178
                                          refine g_aload_n F 0 rfl dX11_best_204 ?_
                                          refine g_iload F 6 rfl dX11_best_205 ?_
                                          refine g_iload F 7 rfl dX11_best_207 ?_
                                          refine g_iload F 8 rfl dX11_best_209 ?_
                                          refine g_rVi F (wr := []) [] (c_X11_radiusOf E A ln pl td zi rf rg g bs2_18 zt l1 pp pw ph n kd rk ps L tN I a0 b0 c0 (hK) (hZ) (by omega) (by omega) (by omega) (hl1)) (gi_V tw_ml_X11_122 tw_im_X11_radiusOf tw_se_X11_radiusOf tw_in_X11 tw_co_X11_radiusOf) 3 rfl (by decide) ⟨rfl, rfl, by decide, by decide, Nat.zero_le _, Nat.zero_le _⟩ 11 0 rfl rfl [0, 1, 2, 3, 4, 5, 6, 7, 8, 9, 10, 11, 12, 13] [] [0, 1, 2, 3, 4, 5, 6, 7, 8, 9, 10, 11, 12, 13] rfl rfl (by decide) rfl rfl (Nat.le_of_ble_eq_true rfl) dX11_best_211 ?_
                                          refine g_istore F 9 [(0, .ref (A 0)), (1, .int (nI k9)), (2, .int w), (3, .int xx), (4, .int yy), (5, .int zz), (6, .int (nI a0)), (7, .int (nI b0)), (8, .int (nI c0)), (9, .int (nI (rrN (dsN kd L pl tN) I a0 b0 c0 n)))] [1, 2, 3, 4, 5, 6, 7, 8, 9, 0] dX11_best_214 (by decide) rfl ?_
                                          refine g_iload_n F 2 rfl dX11_best_216 ?_
                                          refine g_iconst F (-1) (by decide) dX11_best_217 ?_
                                          refine g_icmp_eq F 230 dX11_best_218 (by decide) (fun c_218 => ?_) (fun c_218 => ?_)
                                          · refine g_iload F 9 rfl dX11_best_230 ?_
                                            refine g_istore_n F 2 [(0, .ref (A 0)), (1, .int (nI k9)), (2, .int (nI (rrN (dsN kd L pl tN) I a0 b0 c0 n))), (3, .int xx), (4, .int yy), (5, .int zz), (6, .int (nI a0)), (7, .int (nI b0)), (8, .int (nI c0)), (9, .int (nI (rrN (dsN kd L pl tN) I a0 b0 c0 n)))] [1, 2, 0, 3, 4, 5, 6, 7, 8, 9] dX11_best_232 rfl (by decide) rfl ?_
                                            refine g_iload F 6 rfl dX11_best_233 ?_
                                            refine g_istore_n F 3 [(0, .ref (A 0)), (1, .int (nI k9)), (2, .int (nI (rrN (dsN kd L pl tN) I a0 b0 c0 n))), (3, .int (nI a0)), (4, .int yy), (5, .int zz), (6, .int (nI a0)), (7, .int (nI b0)), (8, .int (nI c0)), (9, .int (nI (rrN (dsN kd L pl tN) I a0 b0 c0 n)))] [1, 2, 3, 0, 4, 5, 6, 7, 8, 9] dX11_best_235 rfl (by decide) rfl ?_
                                            refine g_iload F 7 rfl dX11_best_236 ?_
                                            refine g_istore F 4 [(0, .ref (A 0)), (1, .int (nI k9)), (2, .int (nI (rrN (dsN kd L pl tN) I a0 b0 c0 n))), (3, .int (nI a0)), (4, .int (nI b0)), (5, .int zz), (6, .int (nI a0)), (7, .int (nI b0)), (8, .int (nI c0)), (9, .int (nI (rrN (dsN kd L pl tN) I a0 b0 c0 n)))] [1, 2, 3, 4, 0, 5, 6, 7, 8, 9] dX11_best_238 (by decide) rfl ?_
                                            refine g_iload F 8 rfl dX11_best_240 ?_
                                            refine g_istore F 5 [(0, .ref (A 0)), (1, .int (nI k9)), (2, .int (nI (rrN (dsN kd L pl tN) I a0 b0 c0 n))), (3, .int (nI a0)), (4, .int (nI b0)), (5, .int (nI c0)), (6, .int (nI a0)), (7, .int (nI b0)), (8, .int (nI c0)), (9, .int (nI (rrN (dsN kd L pl tN) I a0 b0 c0 n)))] [1, 2, 3, 4, 5, 0, 6, 7, 8, 9] dX11_best_242 (by decide) rfl ?_
                                            refine g_iinc F (nI (c0 + 1)) 8 8 [(0, .ref (A 0)), (1, .int (nI k9)), (2, .int (nI (rrN (dsN kd L pl tN) I a0 b0 c0 n))), (3, .int (nI a0)), (4, .int (nI b0)), (5, .int (nI c0)), (6, .int (nI a0)), (7, .int (nI b0)), (8, .int (nI (c0 + 1))), (9, .int (nI (rrN (dsN kd L pl tN) I a0 b0 c0 n)))] [1, 2, 3, 4, 5, 6, 7, 8, 0, 9] dX11_best_244 rfl (n_inc c0) (by decide) rfl ?_
                                            refine g_goto F 150 dX11_best_247 (by decide) ?_
                                            refine g_lv [0, 1, 2, 3, 4, 5, 6, 7, 8] [(0, .ref (A 0)), (1, .int (nI k9)), (2, .int (nI (rrN (dsN kd L pl tN) I a0 b0 c0 n))), (3, .int (nI a0)), (4, .int (nI b0)), (5, .int (nI c0)), (6, .int (nI a0)), (7, .int (nI b0)), (8, .int (nI (c0 + 1)))] rfl ?_
                                            exact ih_150 (c0 + 1) (nI (rrN (dsN kd L pl tN) I a0 b0 c0 n)) (nI a0) (nI b0) (nI c0) (by omega) (by omega) (b3_first hB3 c_218 (fun x y z hx => Nat.lt_of_le_of_lt (hrl x y z hx) (by decide)) ht3) (by omega)
                                          · obtain ⟨x0, y0, z0, e1, rfl, rfl, rfl, h5, h6, h7⟩ := hB3.resolve_left (fun z => c_218 z.1)
                                            replace e1 : w = nI (rrN (dsN kd L pl tN) I x0 y0 z0 n) := e1
                                            subst e1
                                            have hrb := hrl x0 y0 z0 h5.1
                                            refine g_iload F 9 rfl dX11_best_221 ?_
                                            refine g_iload_n F 2 rfl dX11_best_223 ?_
                                            refine n_icmp_lt F 230 dX11_best_224 (by decide) (by omega) (by omega) (fun c_224 => ?_) (fun c_224 => ?_)
                                            · refine g_iload F 9 rfl dX11_best_230 ?_
                                              refine g_istore_n F 2 [(0, .ref (A 0)), (1, .int (nI k9)), (2, .int (nI (rrN (dsN kd L pl tN) I a0 b0 c0 n))), (3, .int (nI x0)), (4, .int (nI y0)), (5, .int (nI z0)), (6, .int (nI a0)), (7, .int (nI b0)), (8, .int (nI c0)), (9, .int (nI (rrN (dsN kd L pl tN) I a0 b0 c0 n)))] [1, 2, 0, 3, 4, 5, 6, 7, 8, 9] dX11_best_232 rfl (by decide) rfl ?_
                                              refine g_iload F 6 rfl dX11_best_233 ?_
                                              refine g_istore_n F 3 [(0, .ref (A 0)), (1, .int (nI k9)), (2, .int (nI (rrN (dsN kd L pl tN) I a0 b0 c0 n))), (3, .int (nI a0)), (4, .int (nI y0)), (5, .int (nI z0)), (6, .int (nI a0)), (7, .int (nI b0)), (8, .int (nI c0)), (9, .int (nI (rrN (dsN kd L pl tN) I a0 b0 c0 n)))] [1, 2, 3, 0, 4, 5, 6, 7, 8, 9] dX11_best_235 rfl (by decide) rfl ?_
                                              refine g_iload F 7 rfl dX11_best_236 ?_
                                              refine g_istore F 4 [(0, .ref (A 0)), (1, .int (nI k9)), (2, .int (nI (rrN (dsN kd L pl tN) I a0 b0 c0 n))), (3, .int (nI a0)), (4, .int (nI b0)), (5, .int (nI z0)), (6, .int (nI a0)), (7, .int (nI b0)), (8, .int (nI c0)), (9, .int (nI (rrN (dsN kd L pl tN) I a0 b0 c0 n)))] [1, 2, 3, 4, 0, 5, 6, 7, 8, 9] dX11_best_238 (by decide) rfl ?_
                                              refine g_iload F 8 rfl dX11_best_240 ?_
                                              refine g_istore F 5 [(0, .ref (A 0)), (1, .int (nI k9)), (2, .int (nI (rrN (dsN kd L pl tN) I a0 b0 c0 n))), (3, .int (nI a0)), (4, .int (nI b0)), (5, .int (nI c0)), (6, .int (nI a0)), (7, .int (nI b0)), (8, .int (nI c0)), (9, .int (nI (rrN (dsN kd L pl tN) I a0 b0 c0 n)))] [1, 2, 3, 4, 5, 0, 6, 7, 8, 9] dX11_best_242 (by decide) rfl ?_
                                              refine g_iinc F (nI (c0 + 1)) 8 8 [(0, .ref (A 0)), (1, .int (nI k9)), (2, .int (nI (rrN (dsN kd L pl tN) I a0 b0 c0 n))), (3, .int (nI a0)), (4, .int (nI b0)), (5, .int (nI c0)), (6, .int (nI a0)), (7, .int (nI b0)), (8, .int (nI (c0 + 1))), (9, .int (nI (rrN (dsN kd L pl tN) I a0 b0 c0 n)))] [1, 2, 3, 4, 5, 6, 7, 8, 0, 9] dX11_best_244 rfl (n_inc c0) (by decide) rfl ?_
                                              refine g_goto F 150 dX11_best_247 (by decide) ?_
                                              refine g_lv [0, 1, 2, 3, 4, 5, 6, 7, 8] [(0, .ref (A 0)), (1, .int (nI k9)), (2, .int (nI (rrN (dsN kd L pl tN) I a0 b0 c0 n))), (3, .int (nI a0)), (4, .int (nI b0)), (5, .int (nI c0)), (6, .int (nI a0)), (7, .int (nI b0)), (8, .int (nI (c0 + 1)))] rfl ?_
                                              exact ih_150 (c0 + 1) (nI (rrN (dsN kd L pl tN) I a0 b0 c0 n)) (nI a0) (nI b0) (nI c0) (by omega) (by omega) (b3_less (RR := (fun x y z => rrN (dsN kd L pl tN) I x y z n)) ht3 h7 c_224) (by omega)
                                            · refine g_goto F 244 dX11_best_227 (by decide) ?_
                                              refine g_iinc F (nI (c0 + 1)) 8 8 [(0, .ref (A 0)), (1, .int (nI k9)), (2, .int (nI (rrN (dsN kd L pl tN) I x0 y0 z0 n))), (3, .int (nI x0)), (4, .int (nI y0)), (5, .int (nI z0)), (6, .int (nI a0)), (7, .int (nI b0)), (8, .int (nI (c0 + 1))), (9, .int (nI (rrN (dsN kd L pl tN) I a0 b0 c0 n)))] [1, 2, 3, 4, 5, 6, 7, 8, 0, 9] dX11_best_244 rfl (n_inc c0) (by decide) rfl ?_
                                              refine g_goto F 150 dX11_best_247 (by decide) ?_
                                              refine g_lv [0, 1, 2, 3, 4, 5, 6, 7, 8] [(0, .ref (A 0)), (1, .int (nI k9)), (2, .int (nI (rrN (dsN kd L pl tN) I x0 y0 z0 n))), (3, .int (nI x0)), (4, .int (nI y0)), (5, .int (nI z0)), (6, .int (nI a0)), (7, .int (nI b0)), (8, .int (nI (c0 + 1)))] rfl ?_
                                              exact ih_150 (c0 + 1) (nI (rrN (dsN kd L pl tN) I x0 y0 z0 n)) (nI x0) (nI y0) (nI z0) (by omega) (by omega) (b3_keep (RR := (fun x y z => rrN (dsN kd L pl tN) I x y z n)) h5 h6 h7 (by omega)) (by omega)
                                        · refine g_goto F 244 dX11_best_201 (by decide) ?_
                                          refine g_iinc F (nI (c0 + 1)) 8 8 [(0, .ref (A 0)), (1, .int (nI k9)), (2, .int w), (3, .int xx), (4, .int yy), (5, .int zz), (6, .int (nI a0)), (7, .int (nI b0)), (8, .int (nI (c0 + 1)))] [1, 2, 3, 4, 5, 6, 7, 8, 0] dX11_best_244 rfl (n_inc c0) (by decide) rfl ?_
                                          refine g_goto F 150 dX11_best_247 (by decide) ?_
                                          exact ih_150 (c0 + 1) w xx yy zz (by omega) (by omega) (b3_skip hB3 (fun z => by have q9 := z.2.2.1; rw [c_198] at q9; cases q9)) (by omega)
                              exact lp_150 _ (b0 + 1) w xx yy zz (by omega) (by omega) (b3_re hB2 (fun x1 y1 z1 t9 => by
                                  obtain ⟨i1, i2, i3, h4, h5⟩ := t9
                                  have q1 := hZ.2 _ i1
                                  have q2 := hZ.2 _ i2
                                  have q3 := hZ.2 _ i3
                                  unfold D3
                                  omega)) (Nat.lt_succ_self _)
                      exact lp_113 _ (a0 + 1) w xx yy zz (by omega) (by omega) (b3_re hB (fun x1 y1 z1 t9 => by
                          obtain ⟨i1, i2, i3, h4, h5⟩ := t9
                          have q1 := hZ.2 _ i1
                          have q2 := hZ.2 _ i2
                          have q3 := hZ.2 _ i3
                          unfold D3
                          omega)) (Nat.lt_succ_self _)
              exact lp_88 _ 0 (-1) (-1) (-1) (-1) (by omega) (Or.inl ⟨rfl, fun x1 y1 z1 _ => by unfold D3; omega⟩) (Nat.lt_succ_self _)
            · refine g_iconst F (nI 0) (by decide) dX11_best_36 ?_
              refine g_istore_n F 3 [(0, .ref (A 0)), (1, .int (nI k9)), (2, .int (nI a0)), (3, .int (nI 0))] [1, 2, 3, 0] dX11_best_37 rfl (by decide) rfl ?_
              have lp_38 : ∀ (n_38 : Nat) (b0 : Nat) (g2 : Nat → Int32) (l2 : Nat → Int32), (b0 ≤ n) → (∀ t s, (t < a0 ∨ (t = a0 ∧ s < b0)) → s < n → l2 (t * 60 + s) = nI (dsN kd L pl tN t s)) → n - b0 < n_38 → GW E X 0 0 [ob (A 0) 11 [.int (nI n), .int (nI kd), .ref (A 1), .ref (A 2), .ref (A 3), .ref (A 4), .int (nI rk), .ref (A 5), .ref (A 6), .ref (A 7), .ref (A 8), .ref (A 9), .ref (A 10), .ref (A 11), .int ps, .ref (A 12), .ref (A 13)], ia E (A 1) 60 ln, ia E (A 2) 480 pl, ia E (A 3) 3600 td, za E (A 4) 60 zi, ia E (A 5) 60 rf, ia E (A 6) 60 rg, ia E (A 7) 81 g2, ia E (A 8) 3 bs2_18, za E (A 9) 60 zt, ia E (A 10) 3600 l2, ia E (A 11) 60 pp, ia E (A 12) 60 pw, ia E (A 13) 60 ph] [(0, .ref (A 0)), (1, .int (nI k9)), (2, .int (nI a0)), (3, .int (nI b0))] 38 [] := by
                intro n_38
                induction n_38 with
                | zero => intro b0 g2 l2 hb hl2 hm_38; exact absurd hm_38 (Nat.not_lt_zero _)
                | succ n_38 ih_38 =>
                  intro b0 g2 l2 hb hl2 hm_38
                  refine g_iload_n F 3 rfl dX11_best_38 ?_
                  refine g_aload_n F 0 rfl dX11_best_39 ?_
                  refine g_get F 11 0 0 inX11 rfl rfl (by decide) tw_fl_X11_50 rfl dX11_best_40 ?_
                  refine n_icmp_ge F 69 dX11_best_43 (by decide) (by omega) (by omega) (fun c_43 => ?_) (fun c_43 => ?_)
                  · refine g_iinc F (nI (a0 + 1)) 2 2 [(0, .ref (A 0)), (1, .int (nI k9)), (2, .int (nI (a0 + 1))), (3, .int (nI b0))] [1, 2, 0, 3] dX11_best_69 rfl (n_inc a0) (by decide) rfl ?_
                    refine g_goto F 28 dX11_best_72 (by decide) ?_
                    refine g_lv [0, 1, 2] [(0, .ref (A 0)), (1, .int (nI k9)), (2, .int (nI (a0 + 1)))] rfl ?_
                    exact ih_28 (a0 + 1) g2 l2 (by omega) (fun t s h1 h2 => hl2 t s (by omega) h2) (by omega)
                  · refine g_aload_n F 0 rfl dX11_best_46 ?_
                    refine g_get F 11 0 12 inX11 rfl rfl (by decide) tw_fl_X11_38 rfl dX11_best_47 ?_
                    refine g_bipush F (nI 60) (by decide) dX11_best_50 ?_
                    refine g_iload_n F 2 rfl dX11_best_52 ?_
                    refine n_mul F dX11_best_53 ?_
                    refine g_top (nI (a0 * 60)) (by rw [Nat.mul_comm]) ?_
                    refine g_iload_n F 3 rfl dX11_best_54 ?_
                    refine n_add F dX11_best_55 ?_
                    refine g_aload_n F 0 rfl dX11_best_56 ?_
                    refine g_iload_n F 2 rfl dX11_best_57 ?_
                    refine g_iload_n F 3 rfl dX11_best_58 ?_
                    refine g_cVi F (wr := []) [.int (nI ((a0 * 60) + b0)), .ref (A 10)] (c_X11_far E A ln pl td zi rf rg g2 bs2_18 zt l2 pp pw ph n kd rk ps L tN I a0 b0 (hK) (hZ) (by omega) (by omega)) (gi_V tw_ml_X11_86 tw_im_X11_far tw_se_X11_far tw_in_X11 tw_co_X11_far) 2 rfl (by decide) ⟨rfl, rfl, by decide, by decide, Nat.zero_le _, Nat.zero_le _⟩ 11 0 rfl rfl [0, 1, 2, 3, 4, 5, 6, 7, 8, 9, 10, 11, 12, 13] [] [0, 1, 2, 3, 4, 5, 6, 7, 8, 9, 10, 11, 12, 13] (fun u => [ob (A 0) 11 [.int (nI n), .int (nI kd), .ref (A 1), .ref (A 2), .ref (A 3), .ref (A 4), .int (nI rk), .ref (A 5), .ref (A 6), .ref (A 7), .ref (A 8), .ref (A 9), .ref (A 10), .ref (A 11), .int ps, .ref (A 12), .ref (A 13)], ia E (A 1) 60 ln, ia E (A 2) 480 pl, ia E (A 3) 3600 td, za E (A 4) 60 zi, ia E (A 5) 60 rf, ia E (A 6) 60 rg, ia E (A 7) 81 u, ia E (A 8) 3 bs2_18, za E (A 9) 60 zt, ia E (A 10) 3600 l2, ia E (A 11) 60 pp, ia E (A 12) 60 pw, ia E (A 13) 60 ph]) rfl rfl (by decide) (fun _ => rfl) rfl (Nat.le_of_ble_eq_true rfl) dX11_best_59 (fun r_59 u hu_59 => ?_)
                    revert hu_59; revert u; intro co_59 hu_59
                    subst hu_59
                    refine g_iast F 10 [ob (A 0) 11 [.int (nI n), .int (nI kd), .ref (A 1), .ref (A 2), .ref (A 3), .ref (A 4), .int (nI rk), .ref (A 5), .ref (A 6), .ref (A 7), .ref (A 8), .ref (A 9), .ref (A 10), .ref (A 11), .int ps, .ref (A 12), .ref (A 13)], ia E (A 1) 60 ln, ia E (A 2) 480 pl, ia E (A 3) 3600 td, za E (A 4) 60 zi, ia E (A 5) 60 rf, ia E (A 6) 60 rg, ia E (A 7) 81 co_59, ia E (A 8) 3 bs2_18, za E (A 9) 60 zt, ia E (A 10) 3600 (upd l2 ((a0 * 60) + b0) (nI (dsN kd L pl tN a0 b0))), ia E (A 11) 60 pp, ia E (A 12) 60 pw, ia E (A 13) 60 ph] rfl (by omega) (by decide) rfl dX11_best_62 ?_
                    refine g_iinc F (nI (b0 + 1)) 3 3 [(0, .ref (A 0)), (1, .int (nI k9)), (2, .int (nI a0)), (3, .int (nI (b0 + 1)))] [1, 2, 3, 0] dX11_best_63 rfl (n_inc b0) (by decide) rfl ?_
                    refine g_goto F 38 dX11_best_66 (by decide) ?_
                    exact ih_38 (b0 + 1) co_59 (upd l2 ((a0 * 60) + b0) (nI (dsN kd L pl tN a0 b0))) (by omega) (fun t s h1 h2 => by
                        by_cases c : t = a0 ∧ s = b0
                        · rw [c.1, c.2, pk_us]
                        · exact (pk_un (by omega)).trans (hl2 t s (by omega) h2)) (by omega)
              exact lp_38 _ 0 g l1 (by omega) (fun t s h1 h2 => hl t s (by omega) h2) (Nat.lt_succ_self _)
        exact lp_28 _ 0 co al (by omega) (fun t s h => absurd h (Nat.not_lt_zero t)) (Nat.lt_succ_self _)
      · refine g_if_ne F 26 dX11_best_21 (by decide) (fun h => absurd (by decide) h) (fun _ => ?_)
        refine g_iconst F (-1) (by decide) dX11_best_24 ?_
        exact R _ ((co, bs2_18, al, zt, rf, rg, rk)) _ _ dX11_best_25 (by (try dsimp only); exact (Or.inr ⟨fun k0 h1 h2 h3 h4 => lwk_no hk5 htb, rfl, rfl, rfl, rfl⟩))
  · refine g_if_eq F 24 dX11_best_6 (by decide) (fun _ => ?_) (fun h => absurd (by decide) h)
    refine g_iconst F (-1) (by decide) dX11_best_24 ?_
    exact R _ ((co, bs, al, zt, rf, rg, rk)) _ _ dX11_best_25 (by (try dsimp only); exact (Or.inr ⟨fun k0 h1 h2 h3 h4 => absurd h3 (i32_no (lo := 1) (hi := 3) (by decide) l0_3 k0 h1 h2), rfl, rfl, rfl, rfl⟩))
