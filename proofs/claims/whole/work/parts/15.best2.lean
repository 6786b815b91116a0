def BSP (dd : Nat → Nat → Nat) (I : Nat → Bool) (q : Nat) (t : Nat → Nat) (ro : Nat) : Prop := CDT I q t ∧ RAD dd I t (q + 1) ro ∧ ro ≤ 100000 ∧ ∀ t2, CDT I q t2 → ∀ r2, RAD dd I t2 (q + 1) r2 → ro < r2 ∨ (ro = r2 ∧ lxl q t t2)
theorem cdt_b {f : Nat → Int32} {k q : Nat} {b : Nat → Nat} {I : Nat → Bool} (hb : MB f k b) (hI : BK b k I) (hq : q < k) : CDT I q b := ⟨fun i hi => hI.at (by omega), fun i hi => hb.2.2 i (i + 1) (by omega) (by omega)⟩
theorem bsp_of {dd : Nat → Nat → Nat} {f : Nat → Int32} {k q rad : Nat} {b bt : Nat → Nat} {I : Nat → Bool} (hb : MB f k b) (hI : BK b k I) (hq : q < k) (h : BSI dd I q (CDT I q) rad bt) : BSP dd I q bt rad := by
  rcases h with ⟨-, z⟩ | ⟨-, h2, h3, h4, h5⟩
  · exact absurd (cdt_b hb hI hq) (z b)
  · exact ⟨h3, h4, h2, h5⟩
theorem cdt1 {f : Nat → Int32} {k i j : Nat} {b t : Nat → Nat} {I : Nat → Bool} (hb : MB f k b) (hI : BK b k I) (hi : i < k) (hj : j < k) (hij : i < j) : CDT I 1 (setN (setN t 0 (b i)) 1 (b j)) := by
  constructor
  · intro x hx
    rcases (show x = 0 ∨ x = 1 by omega) with rfl | rfl
    · rw [setN_n (by decide), setN_s]; exact hI.at hi
    · rw [setN_s]; exact hI.at hj
  · intro x hx
    obtain rfl : x = 0 := by omega
    rw [setN_n (by decide), setN_s, setN_s]
    exact hb.2.2 i j hij hj
theorem cdt2 {f : Nat → Int32} {k i j l : Nat} {b t : Nat → Nat} {I : Nat → Bool} (hb : MB f k b) (hI : BK b k I) (hi : i < k) (hj : j < k) (hl : l < k) (hij : i < j) (hjl : j < l) : CDT I 2 (setN (setN (setN t 0 (b i)) 1 (b j)) 2 (b l)) := by
  constructor
  · intro x hx
    rcases (show x = 0 ∨ x = 1 ∨ x = 2 by omega) with rfl | rfl | rfl
    · rw [setN_n (by decide), setN_n (by decide), setN_s]; exact hI.at hi
    · rw [setN_n (by decide), setN_s]; exact hI.at hj
    · rw [setN_s]; exact hI.at hl
  · intro x hx
    rcases (show x = 0 ∨ x = 1 by omega) with rfl | rfl
    · rw [setN_n (by decide), setN_n (by decide), setN_s, setN_n (by decide), setN_s]
      exact hb.2.2 i j hij hj
    · rw [setN_n (by decide), setN_s, setN_s]
      exact hb.2.2 j l hjl hl
theorem mb_lt_inv {f : Nat → Int32} {k i j : Nat} {b : Nat → Nat} (hb : MB f k b) (hi : i < k) (h : b i < b j) : i < j := by
  rcases Nat.lt_or_ge i j with q | q
  · exact q
  · have := mb_le hb q hi
    omega
/-- the choices that begin with one of the first i -/
def D1 (I : Nat → Bool) (q : Nat) (b : Nat → Nat) (i : Nat) (t : Nat → Nat) : Prop := CDT I q t ∧ ∃ i2, i2 < i ∧ t 0 = b i2
theorem d1_0 {I : Nat → Bool} {q : Nat} {b t : Nat → Nat} : ¬ D1 I q b 0 t := fun ⟨_, i, hi, _⟩ => Nat.not_lt_zero i hi
theorem d1_all {f : Nat → Int32} {k q : Nat} {b t : Nat → Nat} {I : Nat → Bool} (hI : BK b k I) : D1 I q b k t ↔ CDT I q t := ⟨fun h => h.1, fun h => ⟨h, by
  obtain ⟨i, hi, e⟩ := (hI (t 0)).mp (h.1 0 (Nat.zero_le q))
  exact ⟨i, hi, e.symm⟩⟩⟩
theorem d1_two {f : Nat → Int32} {k i : Nat} {b t0 : Nat → Nat} {I : Nat → Bool} (hb : MB f k b) (hI : BK b k I) (hi : i < k) (t : Nat → Nat) : (D1 I 1 b i t ∨ ∃ j, i + 1 ≤ j ∧ j < k ∧ agr 1 t (setN (setN t0 0 (b i)) 1 (b j))) ↔ D1 I 1 b (i + 1) t := by
  constructor
  · rintro (⟨h1, i2, h2, h3⟩ | ⟨j, h1, h2, h3⟩)
    · exact ⟨h1, i2, by omega, h3⟩
    · have a0 := h3 0 (by omega)
      have a1 := h3 1 (by omega)
      have c := cdt1 (t := t0) hb hI hi h2 (show i < j by omega)
      refine ⟨⟨fun x hx => by rw [h3 x hx]; exact c.1 x hx, fun x hx => by rw [h3 x (by omega), h3 (x + 1) (by omega)]; exact c.2 x hx⟩, i, by omega, ?_⟩
      rw [a0, setN_n (by decide), setN_s]
  · rintro ⟨h1, i2, h2, h3⟩
    rcases Nat.lt_or_ge i2 i with q | q
    · exact Or.inl ⟨h1, i2, q, h3⟩
    · rw [show i2 = i by omega] at h3
      obtain ⟨j, hj, e⟩ := (hI (t 1)).mp (h1.1 1 (by omega))
      have h4 := h1.2 0 (by omega)
      rw [h3, ← e] at h4
      refine Or.inr ⟨j, mb_lt_inv hb hi h4, hj, fun x hx => ?_⟩
      rcases (show x = 0 ∨ x = 1 by omega) with rfl | rfl
      · rw [setN_n (by decide), setN_s, h3]
      · rw [setN_s, e]
def D2 (I : Nat → Bool) (b : Nat → Nat) (i j : Nat) (t : Nat → Nat) : Prop := CDT I 2 t ∧ ((∃ i2, i2 < i ∧ t 0 = b i2) ∨ (t 0 = b i ∧ ∃ j2, j2 < j ∧ t 1 = b j2))
theorem d2_in {f : Nat → Int32} {k i : Nat} {b : Nat → Nat} {I : Nat → Bool} (hb : MB f k b) (hi : i < k) (t : Nat → Nat) : D1 I 2 b i t ↔ D2 I b i (i + 1) t := by
  constructor
  · rintro ⟨h1, h2⟩
    exact ⟨h1, Or.inl h2⟩
  · rintro ⟨h1, h2 | ⟨h2, j, h3, h4⟩⟩
    · exact ⟨h1, h2⟩
    · have h5 := h1.2 0 (by omega)
      rw [h2, h4] at h5
      have := mb_lt_inv hb hi h5
      omega
theorem d2_out {k i : Nat} {b : Nat → Nat} {I : Nat → Bool} (hI : BK b k I) (t : Nat → Nat) : D2 I b i k t ↔ D1 I 2 b (i + 1) t := by
  constructor
  · rintro ⟨h1, ⟨i2, h2, h3⟩ | ⟨h2, -⟩⟩
    · exact ⟨h1, i2, by omega, h3⟩
    · exact ⟨h1, i, by omega, h2⟩
  · rintro ⟨h1, i2, h2, h3⟩
    rcases Nat.lt_or_ge i2 i with q | q
    · exact ⟨h1, Or.inl ⟨i2, q, h3⟩⟩
    · rw [show i2 = i by omega] at h3
      obtain ⟨j, hj, e⟩ := (hI (t 1)).mp (h1.1 1 (by omega))
      exact ⟨h1, Or.inr ⟨h3, j, hj, e.symm⟩⟩
theorem d2_step {f : Nat → Int32} {k i j : Nat} {b t0 : Nat → Nat} {I : Nat → Bool} (hb : MB f k b) (hI : BK b k I) (hi : i < k) (hj : j < k) (hij : i < j) (t : Nat → Nat) : (D2 I b i j t ∨ ∃ l, j + 1 ≤ l ∧ l < k ∧ agr 2 t (setN (setN (setN t0 0 (b i)) 1 (b j)) 2 (b l))) ↔ D2 I b i (j + 1) t := by
  constructor
  · rintro (⟨h1, h2 | ⟨h2, j2, h3, h4⟩⟩ | ⟨l, h1, h2, h3⟩)
    · exact ⟨h1, Or.inl h2⟩
    · exact ⟨h1, Or.inr ⟨h2, j2, by omega, h4⟩⟩
    · have c := cdt2 (t := t0) hb hI hi hj h2 hij (show j < l by omega)
      refine ⟨⟨fun x hx => by rw [h3 x hx]; exact c.1 x hx, fun x hx => by rw [h3 x (by omega), h3 (x + 1) (by omega)]; exact c.2 x hx⟩, Or.inr ⟨?_, j, by omega, ?_⟩⟩
      · rw [h3 0 (by omega), setN_n (by decide), setN_n (by decide), setN_s]
      · rw [h3 1 (by omega), setN_n (by decide), setN_s]
  · rintro ⟨h1, h2 | ⟨h2, j2, h3, h4⟩⟩
    · exact Or.inl ⟨h1, Or.inl h2⟩
    · rcases Nat.lt_or_ge j2 j with q | q
      · exact Or.inl ⟨h1, Or.inr ⟨h2, j2, q, h4⟩⟩
      · rw [show j2 = j by omega] at h4
        obtain ⟨l, hl, e⟩ := (hI (t 2)).mp (h1.1 2 (by omega))
        have h5 := h1.2 1 (by omega)
        rw [h4, ← e] at h5
        refine Or.inr ⟨l, mb_lt_inv hb hj h5, hl, fun x hx => ?_⟩
        rcases (show x = 0 ∨ x = 1 ∨ x = 2 by omega) with rfl | rfl | rfl
        · rw [setN_n (by decide), setN_n (by decide), setN_s, h2]
        · rw [setN_n (by decide), setN_s, h4]
        · rw [setN_s, e]

set_option maxHeartbeats 4000000 in
set_option maxRecDepth 100000 in
theorem c_X0_tryTwos (E : Ev) (e : Nat) (ga : Nat) (pa : Nat) (ba : Nat) (gf : Nat → Int32) (pf : Nat → Int32) (bf : Nat → Int32) (sus : Nat) (m : Nat) (a : Nat) (f : Nat → Int32) (k : Nat) (d : Nat) (ro : Nat) (tb : Nat) (ka : Nat) (kn : Nat → Int32) (kd : Nat) (b : Nat → Nat) (dd : Nat → Nat → Nat) (I : Nat → Bool) (hb : MB f k b) (hI : BK b k I) (hd : ∀ i j, i < k → j < k → kn (b i * 60 + b j) = nI (dd (b i) (b j)) ∧ dd (b i) (b j) ≤ 100000) (hk2 : 1 ≤ k) (hs : sus < k) (h0 : ∀ j, j < k → gf (0 * 60 + j) = nI 100000) : CTv E yX0_tryTwos (wq yX0_tryTwos cX0_tryTwos 2 none) (rmk 4 94) [.ref e] [ob e 0 [.ref m, .ref d, .ref ga, .ref pa, .ref ba, .int (nI 100001), .int (nI sus)], ob m 5 [.ref a, .int (nI k)], ia E a 60 f, ob d 3 [.ref ro, .ref tb, .ref ka, .int (nI kd)], ia E ka 3600 kn, ia E ga 180 gf, ia E pa 3 pf, ia E ba 3 bf] (fun (u : (Nat → Int32) × (Nat → Int32) × (Nat → Int32) × Nat × Nat) => u.2.2.2.1 ≤ 100001 ∧ ∃ bt2, (u.2.2.2.1 ≤ 100000 → ∀ j, j ≤ 1 → u.2.2.1 j = nI (bt2 j)) ∧ BSI dd I 1 (CDT I 1) u.2.2.2.1 bt2) (fun (u : (Nat → Int32) × (Nat → Int32) × (Nat → Int32) × Nat × Nat) => [ob e 0 [.ref m, .ref d, .ref ga, .ref pa, .ref ba, .int (nI u.2.2.2.1), .int (nI u.2.2.2.2)], ob m 5 [.ref a, .int (nI k)], ia E a 60 f, ob d 3 [.ref ro, .ref tb, .ref ka, .int (nI kd)], ia E ka 3600 kn, ia E ga 180 u.1, ia E pa 3 u.2.1, ia E ba 3 u.2.2.1]) := by
  refine CTv.of (by decide) (Nat.le_of_ble_eq_true rfl) (fun X F R => ?_)
  refine g_lv [0] [(0, .ref e)] rfl ?_
  have hk := hb.1
  refine g_iconst F (nI 0) (by decide) dX0_tryTwos_0 ?_
  refine g_istore_n F 1 [(0, .ref e), (1, .int (nI 0))] [1, 0] dX0_tryTwos_1 rfl (by decide) rfl ?_
  have lp_2 : ∀ (n_2 : Nat) (i : Nat) (g : Nat → Int32) (p1 : Nat → Int32) (b1 : Nat → Int32) (r1 : Nat) (s2 : Nat) (bt1 : Nat → Nat), (i ≤ k) → (∀ x, x < 60 → g x = gf x) → (r1 ≤ 100001) → (s2 < k) → (r1 ≤ 100000 → ∀ j, j ≤ 1 → b1 j = nI (bt1 j)) → (BSI dd I 1 (D1 I 1 b i) r1 bt1) → k - i < n_2 → GW E X 0 0 [ob e 0 [.ref m, .ref d, .ref ga, .ref pa, .ref ba, .int (nI r1), .int (nI s2)], ob m 5 [.ref a, .int (nI k)], ia E a 60 f, ob d 3 [.ref ro, .ref tb, .ref ka, .int (nI kd)], ia E ka 3600 kn, ia E ga 180 g, ia E pa 3 p1, ia E ba 3 b1] [(0, .ref e), (1, .int (nI i))] 2 [] := by
    intro n_2
    induction n_2 with
    | zero => intro i g p1 b1 r1 s2 bt1 hi h2 hr1 hs2 hb1 hB1 hm_2; exact absurd hm_2 (Nat.not_lt_zero _)
    | succ n_2 ih_2 =>
      intro i g p1 b1 r1 s2 bt1 hi h2 hr1 hs2 hb1 hB1 hm_2
      refine g_iload_n F 1 rfl dX0_tryTwos_2 ?_
      refine g_aload_n F 0 rfl dX0_tryTwos_3 ?_
      refine g_get F 0 0 0 inX0 rfl rfl (by decide) tw_fl_X0_28 rfl dX0_tryTwos_4 ?_
      refine g_rVi F (wr := [ob e 0 [.ref m, .ref d, .ref ga, .ref pa, .ref ba, .int (nI r1), .int (nI s2)], ob d 3 [.ref ro, .ref tb, .ref ka, .int (nI kd)], ia E ka 3600 kn, ia E ga 180 g, ia E pa 3 p1, ia E ba 3 b1]) [.int (nI i)] (c_X5_size E m a f k ) (gi_V tw_ml_X0_62 tw_im_X5_size tw_se_X5_size tw_in_X5 tw_co_X5_size) 0 rfl (by decide) ⟨rfl, rfl, by decide, by decide, Nat.zero_le _, Nat.zero_le _⟩ 5 0 rfl rfl [1, 2] [0, 3, 4, 5, 6, 7] [0, 6, 7, 1, 2, 3, 4, 5] rfl rfl (by decide) rfl rfl (Nat.le_of_ble_eq_true rfl) dX0_tryTwos_7 ?_
      refine n_icmp_ge F 33 dX0_tryTwos_10 (by decide) (by omega) (by omega) (fun c_10 => ?_) (fun c_10 => ?_)
      · exact R ((g, p1, b1, r1, s2)) _ _ dX0_tryTwos_33 (by (try dsimp only); exact (⟨hr1, bt1, hb1, bsi_iff hB1 (fun t => by rw [show i = k by omega]; exact d1_all (f := f) hI)⟩))
      · refine g_aload_n F 0 rfl dX0_tryTwos_13 ?_
        refine g_iconst F (nI 0) (by decide) dX0_tryTwos_14 ?_
        refine g_iload_n F 1 rfl dX0_tryTwos_15 ?_
        refine g_cVv F (wr := []) [] (c_X0_pick E e ga pa ba g p1 b1 r1 s2 m a f k d ro tb ka kn kd b dd (fun _ => 0) 0 i (hb) (hd) (by decide) (by omega) (fun j hj => (h2 _ (by omega)).trans (h0 j hj))) (gi_V tw_ml_X0_68 tw_im_X0_pick tw_se_X0_pick tw_in_X0 tw_co_X0_pick) 2 rfl (by decide) ⟨rfl, rfl, by decide, by decide, Nat.zero_le _, Nat.zero_le _⟩ 0 0 rfl rfl [0, 1, 2, 3, 4, 5, 6, 7] [] [0, 1, 2, 3, 4, 5, 6, 7] (fun u => [ob e 0 [.ref m, .ref d, .ref ga, .ref pa, .ref ba, .int (nI r1), .int (nI s2)], ob m 5 [.ref a, .int (nI k)], ia E a 60 f, ob d 3 [.ref ro, .ref tb, .ref ka, .int (nI kd)], ia E ka 3600 kn, ia E ga 180 u, ia E pa 3 (upd p1 0 (nI (b i))), ia E ba 3 b1]) rfl rfl (by decide) (fun _ => rfl) rfl (Nat.le_of_ble_eq_true rfl) dX0_tryTwos_16 (fun u hu_16 => ?_)
        revert hu_16; revert u; intro gf2_16 hu_16
        refine g_aload_n F 0 rfl dX0_tryTwos_19 ?_
        refine g_iconst F (nI 1) (by decide) dX0_tryTwos_20 ?_
        refine g_iload_n F 1 rfl dX0_tryTwos_21 ?_
        refine g_iconst F (nI 1) (by decide) dX0_tryTwos_22 ?_
        refine n_add F dX0_tryTwos_23 ?_
        refine g_cVv F (wr := []) [] (c_X0_tryLast E e ga pa ba gf2_16 (upd p1 0 (nI (b i))) b1 r1 s2 m a f k d ro tb ka kn kd b dd (setN (fun _ => 0) 0 (b i)) I (D1 I 1 b i) bt1 1 (i + 1) (hb) (hI) (hd) (by decide) (fun j hj => hu_16.1 j hj) (by omega) (hs2) (fun j hj => by
          obtain rfl : j = 0 := by omega
          rw [pk_us, setN_s]) (hb1) (hB1) (fun j hj1 hj2 => cdt1 hb hI c_10 hj2 (by omega)) (fun j hj1 hj2 t2 z => by
          obtain ⟨-, i2, z1, z2⟩ := z
          unfold lxl
          rw [z2, setN_n (by decide), setN_s]
          exact Or.inl (hb.2.2 i2 i z1 c_10))) (gi_V tw_ml_X0_44 tw_im_X0_tryLast tw_se_X0_tryLast tw_in_X0 tw_co_X0_tryLast) 2 rfl (by decide) ⟨rfl, rfl, by decide, by decide, Nat.zero_le _, Nat.zero_le _⟩ 0 0 rfl rfl [0, 1, 2, 3, 4, 5, 6, 7] [] [0, 1, 2, 3, 4, 5, 6, 7] (fun u => [ob e 0 [.ref m, .ref d, .ref ga, .ref pa, .ref ba, .int (nI u.2.2.1), .int (nI u.2.2.2)], ob m 5 [.ref a, .int (nI k)], ia E a 60 f, ob d 3 [.ref ro, .ref tb, .ref ka, .int (nI kd)], ia E ka 3600 kn, ia E ga 180 gf2_16, ia E pa 3 u.1, ia E ba 3 u.2.1]) rfl rfl (by decide) (fun _ => rfl) rfl (Nat.le_of_ble_eq_true rfl) dX0_tryTwos_24 (fun u hu_24 => ?_)
        obtain ⟨pf2_24, bf2_24, rad2_24, s2_24⟩ := u
        refine g_ws [ob e 0 [.ref m, .ref d, .ref ga, .ref pa, .ref ba, .int (nI rad2_24), .int (nI s2_24)], ob m 5 [.ref a, .int (nI k)], ia E a 60 f, ob d 3 [.ref ro, .ref tb, .ref ka, .int (nI kd)], ia E ka 3600 kn, ia E ga 180 gf2_16, ia E pa 3 pf2_24, ia E ba 3 bf2_24] rfl ?_
        dsimp only at hu_24
        obtain ⟨hpf3, hs4, bt3, hb3, hB3⟩ := hu_24
        refine g_iinc F (nI (i + 1)) 1 1 [(0, .ref e), (1, .int (nI (i + 1)))] [1, 0] dX0_tryTwos_27 rfl (n_inc i) (by decide) rfl ?_
        refine g_goto F 2 dX0_tryTwos_30 (by decide) ?_
        exact ih_2 (i + 1) gf2_16 pf2_24 bf2_24 rad2_24 s2_24 bt3 (by omega) (fun x hx => (hu_16.2 x (by omega)).trans (h2 x hx)) (by rcases hB3 with z | z <;> omega) (hs4) (hb3) (bsi_iff hB3 (d1_two hb hI c_10)) (by omega)
  exact lp_2 _ 0 gf pf bf 100001 sus (fun _ => 0) (by omega) (fun _ _ => rfl) (by omega) (hs) (fun z => absurd z (by omega)) (Or.inl ⟨rfl, fun t => d1_0⟩) (Nat.lt_succ_self _)

set_option maxHeartbeats 4000000 in
set_option maxRecDepth 100000 in
theorem c_X0_tryThrees (E : Ev) (e : Nat) (ga : Nat) (pa : Nat) (ba : Nat) (gf : Nat → Int32) (pf : Nat → Int32) (bf : Nat → Int32) (sus : Nat) (m : Nat) (a : Nat) (f : Nat → Int32) (k : Nat) (d : Nat) (ro : Nat) (tb : Nat) (ka : Nat) (kn : Nat → Int32) (kd : Nat) (b : Nat → Nat) (dd : Nat → Nat → Nat) (I : Nat → Bool) (hb : MB f k b) (hI : BK b k I) (hd : ∀ i j, i < k → j < k → kn (b i * 60 + b j) = nI (dd (b i) (b j)) ∧ dd (b i) (b j) ≤ 100000) (hk2 : 1 ≤ k) (hs : sus < k) (h0 : ∀ j, j < k → gf (0 * 60 + j) = nI 100000) : CTv E yX0_tryThrees (wq yX0_tryThrees cX0_tryThrees 3 none) (rmk 4 94) [.ref e] [ob e 0 [.ref m, .ref d, .ref ga, .ref pa, .ref ba, .int (nI 100001), .int (nI sus)], ob m 5 [.ref a, .int (nI k)], ia E a 60 f, ob d 3 [.ref ro, .ref tb, .ref ka, .int (nI kd)], ia E ka 3600 kn, ia E ga 180 gf, ia E pa 3 pf, ia E ba 3 bf] (fun (u : (Nat → Int32) × (Nat → Int32) × (Nat → Int32) × Nat × Nat) => u.2.2.2.1 ≤ 100001 ∧ ∃ bt2, (u.2.2.2.1 ≤ 100000 → ∀ j, j ≤ 2 → u.2.2.1 j = nI (bt2 j)) ∧ BSI dd I 2 (CDT I 2) u.2.2.2.1 bt2) (fun (u : (Nat → Int32) × (Nat → Int32) × (Nat → Int32) × Nat × Nat) => [ob e 0 [.ref m, .ref d, .ref ga, .ref pa, .ref ba, .int (nI u.2.2.2.1), .int (nI u.2.2.2.2)], ob m 5 [.ref a, .int (nI k)], ia E a 60 f, ob d 3 [.ref ro, .ref tb, .ref ka, .int (nI kd)], ia E ka 3600 kn, ia E ga 180 u.1, ia E pa 3 u.2.1, ia E ba 3 u.2.2.1]) := by
  refine CTv.of (by decide) (Nat.le_of_ble_eq_true rfl) (fun X F R => ?_)
  refine g_lv [0] [(0, .ref e)] rfl ?_
  have hk := hb.1
  refine g_iconst F (nI 0) (by decide) dX0_tryThrees_0 ?_
  refine g_istore_n F 1 [(0, .ref e), (1, .int (nI 0))] [1, 0] dX0_tryThrees_1 rfl (by decide) rfl ?_
  have lp_2 : ∀ (n_2 : Nat) (i : Nat) (g : Nat → Int32) (p1 : Nat → Int32) (b1 : Nat → Int32) (r1 : Nat) (s2 : Nat) (bt1 : Nat → Nat), (i ≤ k) → (∀ x, x < 60 → g x = gf x) → (r1 ≤ 100001) → (s2 < k) → (r1 ≤ 100000 → ∀ j, j ≤ 2 → b1 j = nI (bt1 j)) → (BSI dd I 2 (D1 I 2 b i) r1 bt1) → k - i < n_2 → GW E X 0 0 [ob e 0 [.ref m, .ref d, .ref ga, .ref pa, .ref ba, .int (nI r1), .int (nI s2)], ob m 5 [.ref a, .int (nI k)], ia E a 60 f, ob d 3 [.ref ro, .ref tb, .ref ka, .int (nI kd)], ia E ka 3600 kn, ia E ga 180 g, ia E pa 3 p1, ia E ba 3 b1] [(0, .ref e), (1, .int (nI i))] 2 [] := by
    intro n_2
    induction n_2 with
    | zero => intro i g p1 b1 r1 s2 bt1 hi h2 hr1 hs2 hb1 hB1 hm_2; exact absurd hm_2 (Nat.not_lt_zero _)
    | succ n_2 ih_2 =>
      intro i g p1 b1 r1 s2 bt1 hi h2 hr1 hs2 hb1 hB1 hm_2
      refine g_iload_n F 1 rfl dX0_tryThrees_2 ?_
      refine g_aload_n F 0 rfl dX0_tryThrees_3 ?_
      refine g_get F 0 0 0 inX0 rfl rfl (by decide) tw_fl_X0_28 rfl dX0_tryThrees_4 ?_
      refine g_rVi F (wr := [ob e 0 [.ref m, .ref d, .ref ga, .ref pa, .ref ba, .int (nI r1), .int (nI s2)], ob d 3 [.ref ro, .ref tb, .ref ka, .int (nI kd)], ia E ka 3600 kn, ia E ga 180 g, ia E pa 3 p1, ia E ba 3 b1]) [.int (nI i)] (c_X5_size E m a f k ) (gi_V tw_ml_X0_62 tw_im_X5_size tw_se_X5_size tw_in_X5 tw_co_X5_size) 0 rfl (by decide) ⟨rfl, rfl, by decide, by decide, Nat.zero_le _, Nat.zero_le _⟩ 5 0 rfl rfl [1, 2] [0, 3, 4, 5, 6, 7] [0, 6, 7, 1, 2, 3, 4, 5] rfl rfl (by decide) rfl rfl (Nat.le_of_ble_eq_true rfl) dX0_tryThrees_7 ?_
      refine n_icmp_ge F 60 dX0_tryThrees_10 (by decide) (by omega) (by omega) (fun c_10 => ?_) (fun c_10 => ?_)
      · exact R ((g, p1, b1, r1, s2)) _ _ dX0_tryThrees_60 (by (try dsimp only); exact (⟨hr1, bt1, hb1, bsi_iff hB1 (fun t => by rw [show i = k by omega]; exact d1_all (f := f) hI)⟩))
      · refine g_aload_n F 0 rfl dX0_tryThrees_13 ?_
        refine g_iconst F (nI 0) (by decide) dX0_tryThrees_14 ?_
        refine g_iload_n F 1 rfl dX0_tryThrees_15 ?_
        refine g_cVv F (wr := []) [] (c_X0_pick E e ga pa ba g p1 b1 r1 s2 m a f k d ro tb ka kn kd b dd (fun _ => 0) 0 i (hb) (hd) (by decide) (by omega) (fun j hj => (h2 _ (by omega)).trans (h0 j hj))) (gi_V tw_ml_X0_68 tw_im_X0_pick tw_se_X0_pick tw_in_X0 tw_co_X0_pick) 2 rfl (by decide) ⟨rfl, rfl, by decide, by decide, Nat.zero_le _, Nat.zero_le _⟩ 0 0 rfl rfl [0, 1, 2, 3, 4, 5, 6, 7] [] [0, 1, 2, 3, 4, 5, 6, 7] (fun u => [ob e 0 [.ref m, .ref d, .ref ga, .ref pa, .ref ba, .int (nI r1), .int (nI s2)], ob m 5 [.ref a, .int (nI k)], ia E a 60 f, ob d 3 [.ref ro, .ref tb, .ref ka, .int (nI kd)], ia E ka 3600 kn, ia E ga 180 u, ia E pa 3 (upd p1 0 (nI (b i))), ia E ba 3 b1]) rfl rfl (by decide) (fun _ => rfl) rfl (Nat.le_of_ble_eq_true rfl) dX0_tryThrees_16 (fun u hu_16 => ?_)
        revert hu_16; revert u; intro gf2_16 hu_16
        refine g_iload_n F 1 rfl dX0_tryThrees_19 ?_
        refine g_iconst F (nI 1) (by decide) dX0_tryThrees_20 ?_
        refine n_add F dX0_tryThrees_21 ?_
        refine g_istore_n F 2 [(0, .ref e), (1, .int (nI i)), (2, .int (nI (i + 1)))] [1, 2, 0] dX0_tryThrees_22 rfl (by decide) rfl ?_
        have lp_23 : ∀ (n_23 : Nat) (j : Nat) (g2 : Nat → Int32) (p2 : Nat → Int32) (b2 : Nat → Int32) (r2 : Nat) (s3 : Nat) (bt2 : Nat → Nat), (i < j) → (j ≤ k) → (∀ x, x < 60 → g2 x = gf x) → (∀ x, x < k → g2 (1 * 60 + x) = nI (md dd (setN (fun _ => 0) 0 (b i)) 1 (b x))) → (p2 0 = nI (b i)) → (r2 ≤ 100001) → (s3 < k) → (r2 ≤ 100000 → ∀ j, j ≤ 2 → b2 j = nI (bt2 j)) → (BSI dd I 2 (D2 I b i j) r2 bt2) → k - j < n_23 → GW E X 0 0 [ob e 0 [.ref m, .ref d, .ref ga, .ref pa, .ref ba, .int (nI r2), .int (nI s3)], ob m 5 [.ref a, .int (nI k)], ia E a 60 f, ob d 3 [.ref ro, .ref tb, .ref ka, .int (nI kd)], ia E ka 3600 kn, ia E ga 180 g2, ia E pa 3 p2, ia E ba 3 b2] [(0, .ref e), (1, .int (nI i)), (2, .int (nI j))] 23 [] := by
          intro n_23
          induction n_23 with
          | zero => intro j g2 p2 b2 r2 s3 bt2 hij hj h3 h4 hp2 hr2 hs2b hb1b hB1b hm_23; exact absurd hm_23 (Nat.not_lt_zero _)
          | succ n_23 ih_23 =>
            intro j g2 p2 b2 r2 s3 bt2 hij hj h3 h4 hp2 hr2 hs2b hb1b hB1b hm_23
            refine g_iload_n F 2 rfl dX0_tryThrees_23 ?_
            refine g_aload_n F 0 rfl dX0_tryThrees_24 ?_
            refine g_get F 0 0 0 inX0 rfl rfl (by decide) tw_fl_X0_28 rfl dX0_tryThrees_25 ?_
            refine g_rVi F (wr := [ob e 0 [.ref m, .ref d, .ref ga, .ref pa, .ref ba, .int (nI r2), .int (nI s3)], ob d 3 [.ref ro, .ref tb, .ref ka, .int (nI kd)], ia E ka 3600 kn, ia E ga 180 g2, ia E pa 3 p2, ia E ba 3 b2]) [.int (nI j)] (c_X5_size E m a f k ) (gi_V tw_ml_X0_62 tw_im_X5_size tw_se_X5_size tw_in_X5 tw_co_X5_size) 0 rfl (by decide) ⟨rfl, rfl, by decide, by decide, Nat.zero_le _, Nat.zero_le _⟩ 5 0 rfl rfl [1, 2] [0, 3, 4, 5, 6, 7] [0, 6, 7, 1, 2, 3, 4, 5] rfl rfl (by decide) rfl rfl (Nat.le_of_ble_eq_true rfl) dX0_tryThrees_28 ?_
            refine n_icmp_ge F 54 dX0_tryThrees_31 (by decide) (by omega) (by omega) (fun c_31 => ?_) (fun c_31 => ?_)
            · refine g_iinc F (nI (i + 1)) 1 1 [(0, .ref e), (1, .int (nI (i + 1))), (2, .int (nI j))] [1, 0, 2] dX0_tryThrees_54 rfl (n_inc i) (by decide) rfl ?_
              refine g_goto F 2 dX0_tryThrees_57 (by decide) ?_
              refine g_lv [0, 1] [(0, .ref e), (1, .int (nI (i + 1)))] rfl ?_
              exact ih_2 (i + 1) g2 p2 b2 r2 s3 bt2 (by omega) (h3) (hr2) (hs2b) (hb1b) (bsi_iff hB1b (fun t => by rw [show j = k by omega]; exact d2_out hI t)) (by omega)
            · refine g_aload_n F 0 rfl dX0_tryThrees_34 ?_
              refine g_iconst F (nI 1) (by decide) dX0_tryThrees_35 ?_
              refine g_iload_n F 2 rfl dX0_tryThrees_36 ?_
              refine g_cVv F (wr := []) [] (c_X0_pick E e ga pa ba g2 p2 b2 r2 s3 m a f k d ro tb ka kn kd b dd (setN (fun _ => 0) 0 (b i)) 1 j (hb) (hd) (by decide) (by omega) (fun x hx => h4 x hx)) (gi_V tw_ml_X0_68 tw_im_X0_pick tw_se_X0_pick tw_in_X0 tw_co_X0_pick) 2 rfl (by decide) ⟨rfl, rfl, by decide, by decide, Nat.zero_le _, Nat.zero_le _⟩ 0 0 rfl rfl [0, 1, 2, 3, 4, 5, 6, 7] [] [0, 1, 2, 3, 4, 5, 6, 7] (fun u => [ob e 0 [.ref m, .ref d, .ref ga, .ref pa, .ref ba, .int (nI r2), .int (nI s3)], ob m 5 [.ref a, .int (nI k)], ia E a 60 f, ob d 3 [.ref ro, .ref tb, .ref ka, .int (nI kd)], ia E ka 3600 kn, ia E ga 180 u, ia E pa 3 (upd p2 1 (nI (b j))), ia E ba 3 b2]) rfl rfl (by decide) (fun _ => rfl) rfl (Nat.le_of_ble_eq_true rfl) dX0_tryThrees_37 (fun u hu_37 => ?_)
              revert hu_37; revert u; intro gf2_37 hu_37
              refine g_aload_n F 0 rfl dX0_tryThrees_40 ?_
              refine g_iconst F (nI 2) (by decide) dX0_tryThrees_41 ?_
              refine g_iload_n F 2 rfl dX0_tryThrees_42 ?_
              refine g_iconst F (nI 1) (by decide) dX0_tryThrees_43 ?_
              refine n_add F dX0_tryThrees_44 ?_
              refine g_cVv F (wr := []) [] (c_X0_tryLast E e ga pa ba gf2_37 (upd p2 1 (nI (b j))) b2 r2 s3 m a f k d ro tb ka kn kd b dd (setN (setN (fun _ => 0) 0 (b i)) 1 (b j)) I (D2 I b i j) bt2 2 (j + 1) (hb) (hI) (hd) (by decide) (fun x hx => hu_37.1 x hx) (by omega) (hs2b) (fun x hx => by
            rcases (show x = 0 ∨ x = 1 by omega) with rfl | rfl
            · rw [pk_un (by decide), setN_n (by decide), setN_s]; exact hp2
            · rw [pk_us, setN_s]) (hb1b) (hB1b) (fun x hx1 hx2 => cdt2 hb hI c_10 c_31 hx2 hij (by omega)) (fun x hx1 hx2 t2 z => by
            unfold lxl
            rw [setN_n (by decide), setN_n (by decide), setN_s, setN_n (by decide), setN_s]
            obtain ⟨-, ⟨i2, z1, z2⟩ | ⟨z1, j2, z2, z3⟩⟩ := z
            · rw [z2]; exact Or.inl (hb.2.2 i2 i z1 c_10)
            · rw [z1, z3]; exact Or.inr ⟨rfl, Or.inr (Or.inl (hb.2.2 j2 j z2 c_31))⟩)) (gi_V tw_ml_X0_44 tw_im_X0_tryLast tw_se_X0_tryLast tw_in_X0 tw_co_X0_tryLast) 2 rfl (by decide) ⟨rfl, rfl, by decide, by decide, Nat.zero_le _, Nat.zero_le _⟩ 0 0 rfl rfl [0, 1, 2, 3, 4, 5, 6, 7] [] [0, 1, 2, 3, 4, 5, 6, 7] (fun u => [ob e 0 [.ref m, .ref d, .ref ga, .ref pa, .ref ba, .int (nI u.2.2.1), .int (nI u.2.2.2)], ob m 5 [.ref a, .int (nI k)], ia E a 60 f, ob d 3 [.ref ro, .ref tb, .ref ka, .int (nI kd)], ia E ka 3600 kn, ia E ga 180 gf2_37, ia E pa 3 u.1, ia E ba 3 u.2.1]) rfl rfl (by decide) (fun _ => rfl) rfl (Nat.le_of_ble_eq_true rfl) dX0_tryThrees_45 (fun u hu_45 => ?_)
              obtain ⟨pf2_45, bf2_45, rad2_45, s2_45⟩ := u
              refine g_ws [ob e 0 [.ref m, .ref d, .ref ga, .ref pa, .ref ba, .int (nI rad2_45), .int (nI s2_45)], ob m 5 [.ref a, .int (nI k)], ia E a 60 f, ob d 3 [.ref ro, .ref tb, .ref ka, .int (nI kd)], ia E ka 3600 kn, ia E ga 180 gf2_37, ia E pa 3 pf2_45, ia E ba 3 bf2_45] rfl ?_
              dsimp only at hu_45
              obtain ⟨hpf3, hs4, bt3, hb3, hB3⟩ := hu_45
              refine g_iinc F (nI (j + 1)) 2 2 [(0, .ref e), (1, .int (nI i)), (2, .int (nI (j + 1)))] [1, 2, 0] dX0_tryThrees_48 rfl (n_inc j) (by decide) rfl ?_
              refine g_goto F 23 dX0_tryThrees_51 (by decide) ?_
              exact ih_23 (j + 1) gf2_37 pf2_45 bf2_45 rad2_45 s2_45 bt3 (by omega) (by omega) (fun x hx => (hu_37.2 x (by omega)).trans (h3 x hx)) (fun x hx => (hu_37.2 (1 * 60 + x) (by omega)).trans (h4 x hx)) (by rw [hpf3 0 (by decide), setN_n (by decide), setN_s]) (by rcases hB3 with z | z <;> omega) (hs4) (hb3) (bsi_iff hB3 (d2_step hb hI c_10 c_31 hij)) (by omega)
        exact lp_23 _ (i + 1) gf2_16 (upd p1 0 (nI (b i))) b1 r1 s2 bt1 (by omega) (by omega) (fun x hx => (hu_16.2 x (by omega)).trans (h2 x hx)) (fun x hx => hu_16.1 x hx) (pk_us) (hr1) (hs2) (hb1) (bsi_iff hB1 (d2_in hb c_10)) (Nat.lt_succ_self _)
  exact lp_2 _ 0 gf pf bf 100001 sus (fun _ => 0) (by omega) (fun _ _ => rfl) (by omega) (hs) (fun z => absurd z (by omega)) (Or.inl ⟨rfl, fun t => d1_0⟩) (Nat.lt_succ_self _)

set_option maxHeartbeats 4000000 in
set_option maxRecDepth 100000 in
theorem c_X0_take (E : Ev) (e : Nat) (ga : Nat) (pa : Nat) (ba : Nat) (gf : Nat → Int32) (pf : Nat → Int32) (bf : Nat → Int32) (rad : Int32) (sus : Int32) (m : Nat) (a : Nat) (f : Nat → Int32) (k : Nat) (d : Nat) (ro : Nat) (tb : Nat) (ka : Nat) (kn : Nat → Int32) (kd : Nat) (rs : Nat) (ra : Nat) (rb : Nat) (rf : Nat → Int32) (rg : Nat → Int32) (rk : Nat) (b : Nat → Nat) (dd : Nat → Nat → Nat) (I : Nat → Bool) (kk : Nat) (hb : MB f k b) (hI : BK b k I) (hd : ∀ i j, i < k → j < k → kn (b i * 60 + b j) = nI (dd (b i) (b j)) ∧ dd (b i) (b j) ≤ 100000) (hk1 : 1 ≤ kk) (hk3 : kk ≤ 3) (hk2 : kk ≤ k) : CTi E yX0_take (wq yX0_take cX0_take 4 (some .int)) (rmk 5 116) [.ref e, .int (nI kk), .ref rs] [ob e 0 [.ref m, .ref d, .ref ga, .ref pa, .ref ba, .int rad, .int sus], ob m 5 [.ref a, .int (nI k)], ia E a 60 f, ob d 3 [.ref ro, .ref tb, .ref ka, .int (nI kd)], ia E ka 3600 kn, ia E ga 180 gf, ia E pa 3 pf, ia E ba 3 bf, ob rs 7 [.ref ra, .ref rb, .int (nI rk)], ia E ra 60 rf, ia E rb 60 rg] (fun (r : Int32) (u : (Nat → Int32) × (Nat → Int32) × (Nat → Int32) × Nat × Nat × (Nat → Int32) × (Nat → Int32)) => ∃ t, r = nI u.2.2.2.1 ∧ BSP dd I (kk - 1) t u.2.2.2.1 ∧ ∀ j, j < kk → u.2.2.2.2.2.1 j = nI (t j) ∧ u.2.2.2.2.2.2 j = nI 0) (fun (u : (Nat → Int32) × (Nat → Int32) × (Nat → Int32) × Nat × Nat × (Nat → Int32) × (Nat → Int32)) => [ob e 0 [.ref m, .ref d, .ref ga, .ref pa, .ref ba, .int (nI u.2.2.2.1), .int (nI u.2.2.2.2.1)], ob m 5 [.ref a, .int (nI k)], ia E a 60 f, ob d 3 [.ref ro, .ref tb, .ref ka, .int (nI kd)], ia E ka 3600 kn, ia E ga 180 u.1, ia E pa 3 u.2.1, ia E ba 3 u.2.2.1, ob rs 7 [.ref ra, .ref rb, .int (nI kk)], ia E ra 60 u.2.2.2.2.2.1, ia E rb 60 u.2.2.2.2.2.2]) := by
  refine CTi.of (by decide) (Nat.le_of_ble_eq_true rfl) (fun X F R => ?_)
  refine g_lv [0, 1, 2] [(0, .ref e), (1, .int (nI kk)), (2, .ref rs)] rfl ?_
  have hk := hb.1
  refine g_aload_n F 0 rfl dX0_take_0 ?_
  refine g_get F 0 0 2 inX0 rfl rfl (by decide) tw_fl_X0_9 rfl dX0_take_1 ?_
  refine g_ldc F tw_cn_X0_36 dX0_take_4 ?_
  refine g_top (nI 100000) (by decide) ?_
  refine g_cSv F (wr := [ob e 0 [.ref m, .ref d, .ref ga, .ref pa, .ref ba, .int rad, .int sus], ob m 5 [.ref a, .int (nI k)], ia E a 60 f, ob d 3 [.ref ro, .ref tb, .ref ka, .int (nI kd)], ia E ka 3600 kn, ia E pa 3 pf, ia E ba 3 bf, ob rs 7 [.ref ra, .ref rb, .int (nI rk)], ia E ra 60 rf, ia E rb 60 rg]) [] (c_J7_fill_53178 E ga 180 gf (nI 100000) (by decide)) ⟨tw_ml_X0_37, tw_sm_J7_fill_53178, tw_in_J7, tw_co_J7_fill_53178⟩ 2 rfl (by decide) ⟨rfl, rfl, by decide, by decide, Nat.zero_le _, Nat.zero_le _⟩ [5] [0, 1, 2, 3, 4, 6, 7, 8, 9, 10] [0, 1, 2, 3, 4, 10, 5, 6, 7, 8, 9] (fun u => [ob e 0 [.ref m, .ref d, .ref ga, .ref pa, .ref ba, .int rad, .int sus], ob m 5 [.ref a, .int (nI k)], ia E a 60 f, ob d 3 [.ref ro, .ref tb, .ref ka, .int (nI kd)], ia E ka 3600 kn, ia E ga 180 (fl gf 180 (nI 100000)), ia E pa 3 pf, ia E ba 3 bf, ob rs 7 [.ref ra, .ref rb, .int (nI rk)], ia E ra 60 rf, ia E rb 60 rg]) rfl rfl (by decide) (fun _ => rfl) rfl (Nat.le_of_ble_eq_true rfl) dX0_take_6 (fun u hu_6 => ?_)
  refine g_aload_n F 0 rfl dX0_take_9 ?_
  refine g_ldc F tw_cn_X0_43 dX0_take_10 ?_
  refine g_top (nI 100001) (by decide) ?_
  refine g_put F 0 0 5 [ob e 0 [.ref m, .ref d, .ref ga, .ref pa, .ref ba, .int (nI 100001), .int sus], ob m 5 [.ref a, .int (nI k)], ia E a 60 f, ob d 3 [.ref ro, .ref tb, .ref ka, .int (nI kd)], ia E ka 3600 kn, ia E ga 180 (fl gf 180 (nI 100000)), ia E pa 3 pf, ia E ba 3 bf, ob rs 7 [.ref ra, .ref rb, .int (nI rk)], ia E ra 60 rf, ia E rb 60 rg] inX0 tyX0_ok nmX0 rfl rfl (by decide) tw_fl_X0_21 rfl rfl rfl rfl (Nat.le_of_ble_eq_true rfl) rfl dX0_take_12 ?_
  refine g_aload_n F 0 rfl dX0_take_15 ?_
  refine g_iconst F (nI 0) (by decide) dX0_take_16 ?_
  refine g_put F 0 0 6 [ob e 0 [.ref m, .ref d, .ref ga, .ref pa, .ref ba, .int (nI 100001), .int (nI 0)], ob m 5 [.ref a, .int (nI k)], ia E a 60 f, ob d 3 [.ref ro, .ref tb, .ref ka, .int (nI kd)], ia E ka 3600 kn, ia E ga 180 (fl gf 180 (nI 100000)), ia E pa 3 pf, ia E ba 3 bf, ob rs 7 [.ref ra, .ref rb, .int (nI rk)], ia E ra 60 rf, ia E rb 60 rg] inX0 tyX0_ok nmX0 rfl rfl (by decide) tw_fl_X0_25 rfl rfl rfl rfl (Nat.le_of_ble_eq_true rfl) rfl dX0_take_17 ?_
  refine g_iload_n F 1 rfl dX0_take_20 ?_
  refine g_iconst F (nI 1) (by decide) dX0_take_21 ?_
  refine n_icmp_ne F 34 dX0_take_22 (by decide) (by omega) (by omega) (fun c_22 => ?_) (fun c_22 => ?_)
  · refine g_iload_n F 1 rfl dX0_take_34 ?_
    refine g_iconst F (nI 2) (by decide) dX0_take_35 ?_
    refine n_icmp_ne F 46 dX0_take_36 (by decide) (by omega) (by omega) (fun c_36 => ?_) (fun c_36 => ?_)
    · obtain rfl : kk = 3 := by omega
      refine g_aload_n F 0 rfl dX0_take_46 ?_
      refine g_cVv F (wr := [ob rs 7 [.ref ra, .ref rb, .int (nI rk)], ia E ra 60 rf, ia E rb 60 rg]) [] (c_X0_tryThrees E e ga pa ba (fl gf 180 (nI 100000)) pf bf 0 m a f k d ro tb ka kn kd b dd I (hb) (hI) (hd) (by omega) (by omega) (fun j hj => fl_at (by omega))) (gi_V tw_ml_X0_51 tw_im_X0_tryThrees tw_se_X0_tryThrees tw_in_X0 tw_co_X0_tryThrees) 0 rfl (by decide) ⟨rfl, rfl, by decide, by decide, Nat.zero_le _, Nat.zero_le _⟩ 0 0 rfl rfl [0, 1, 2, 3, 4, 5, 6, 7] [8, 9, 10] [3, 4, 5, 6, 7, 8, 9, 10, 0, 1, 2] (fun u => [ob e 0 [.ref m, .ref d, .ref ga, .ref pa, .ref ba, .int (nI u.2.2.2.1), .int (nI u.2.2.2.2)], ob m 5 [.ref a, .int (nI k)], ia E a 60 f, ob d 3 [.ref ro, .ref tb, .ref ka, .int (nI kd)], ia E ka 3600 kn, ia E ga 180 u.1, ia E pa 3 u.2.1, ia E ba 3 u.2.2.1, ob rs 7 [.ref ra, .ref rb, .int (nI rk)], ia E ra 60 rf, ia E rb 60 rg]) rfl rfl (by decide) (fun _ => rfl) rfl (Nat.le_of_ble_eq_true rfl) dX0_take_47 (fun u hu_47 => ?_)
      obtain ⟨gf2_47, pf2_47, bf2_47, rad2_47, s2_47⟩ := u
      refine g_ws [ob e 0 [.ref m, .ref d, .ref ga, .ref pa, .ref ba, .int (nI rad2_47), .int (nI s2_47)], ob m 5 [.ref a, .int (nI k)], ia E a 60 f, ob d 3 [.ref ro, .ref tb, .ref ka, .int (nI kd)], ia E ka 3600 kn, ia E ga 180 gf2_47, ia E pa 3 pf2_47, ia E ba 3 bf2_47, ob rs 7 [.ref ra, .ref rb, .int (nI rk)], ia E ra 60 rf, ia E rb 60 rg] rfl ?_
      dsimp only at hu_47
      obtain ⟨-, bt9, hb9, hB9⟩ := hu_47
      have hbsp : BSP dd I 2 bt9 rad2_47 := bsp_of hb hI (by omega) hB9
      refine g_aload_n F 2 rfl dX0_take_50 ?_
      refine g_cVv F (wr := [ob e 0 [.ref m, .ref d, .ref ga, .ref pa, .ref ba, .int (nI rad2_47), .int (nI s2_47)], ob m 5 [.ref a, .int (nI k)], ia E a 60 f, ob d 3 [.ref ro, .ref tb, .ref ka, .int (nI kd)], ia E ka 3600 kn, ia E ga 180 gf2_47, ia E pa 3 pf2_47, ia E ba 3 bf2_47]) [] (c_X7_clear E rs ra rb rf rg rk ) (gi_V tw_ml_X0_54 tw_im_X7_clear tw_se_X7_clear tw_in_X7 tw_co_X7_clear) 0 rfl (by decide) ⟨rfl, rfl, by decide, by decide, Nat.zero_le _, Nat.zero_le _⟩ 7 0 rfl rfl [8, 9, 10] [0, 1, 2, 3, 4, 5, 6, 7] [0, 1, 2, 3, 4, 5, 6, 7, 8, 9, 10] (fun u => [ob e 0 [.ref m, .ref d, .ref ga, .ref pa, .ref ba, .int (nI rad2_47), .int (nI s2_47)], ob m 5 [.ref a, .int (nI k)], ia E a 60 f, ob d 3 [.ref ro, .ref tb, .ref ka, .int (nI kd)], ia E ka 3600 kn, ia E ga 180 gf2_47, ia E pa 3 pf2_47, ia E ba 3 bf2_47, ob rs 7 [.ref ra, .ref rb, .int (nI 0)], ia E ra 60 rf, ia E rb 60 rg]) rfl rfl (by decide) (fun _ => rfl) rfl (Nat.le_of_ble_eq_true rfl) dX0_take_51 (fun u hu_51 => ?_)
      refine g_iconst F (nI 0) (by decide) dX0_take_54 ?_
      refine g_istore_n F 3 [(0, .ref e), (1, .int (nI 3)), (2, .ref rs), (3, .int (nI 0))] [1, 2, 3, 0] dX0_take_55 rfl (by decide) rfl ?_
      have lp_56 : ∀ (n_56 : Nat) (i : Nat) (r1 : Nat → Int32) (r2 : Nat → Int32), (i ≤ 3) → (∀ j, j < i → r1 j = nI (bt9 j) ∧ r2 j = nI 0) → 3 - i < n_56 → GW E X 0 0 [ob e 0 [.ref m, .ref d, .ref ga, .ref pa, .ref ba, .int (nI rad2_47), .int (nI s2_47)], ob m 5 [.ref a, .int (nI k)], ia E a 60 f, ob d 3 [.ref ro, .ref tb, .ref ka, .int (nI kd)], ia E ka 3600 kn, ia E ga 180 gf2_47, ia E pa 3 pf2_47, ia E ba 3 bf2_47, ob rs 7 [.ref ra, .ref rb, .int (nI i)], ia E ra 60 r1, ia E rb 60 r2] [(0, .ref e), (1, .int (nI 3)), (2, .ref rs), (3, .int (nI i))] 56 [] := by
        intro n_56
        induction n_56 with
        | zero => intro i r1 r2 hi hr hm_56; exact absurd hm_56 (Nat.not_lt_zero _)
        | succ n_56 ih_56 =>
          intro i r1 r2 hi hr hm_56
          refine g_iload_n F 3 rfl dX0_take_56 ?_
          refine g_iload_n F 1 rfl dX0_take_57 ?_
          refine n_icmp_ge F 78 dX0_take_58 (by decide) (by omega) (by omega) (fun c_58 => ?_) (fun c_58 => ?_)
          · obtain rfl : i = 3 := by omega
            refine g_aload_n F 0 rfl dX0_take_78 ?_
            refine g_get F 0 0 5 inX0 rfl rfl (by decide) tw_fl_X0_21 rfl dX0_take_79 ?_
            exact R _ ((gf2_47, pf2_47, bf2_47, rad2_47, s2_47, r1, r2)) _ _ dX0_take_82 (by (try dsimp only); exact (⟨bt9, rfl, hbsp, fun j hj => hr j (by omega)⟩))
          · refine g_aload_n F 2 rfl dX0_take_61 ?_
            refine g_aload_n F 0 rfl dX0_take_62 ?_
            refine g_get F 0 0 4 inX0 rfl rfl (by decide) tw_fl_X0_18 rfl dX0_take_63 ?_
            refine g_iload_n F 3 rfl dX0_take_66 ?_
            refine g_iald F 7 rfl (by omega) (by decide) dX0_take_67 ?_
            refine g_iconst F (nI 0) (by decide) dX0_take_68 ?_
            refine g_cVv F (wr := [ob e 0 [.ref m, .ref d, .ref ga, .ref pa, .ref ba, .int (nI rad2_47), .int (nI s2_47)], ob m 5 [.ref a, .int (nI k)], ia E a 60 f, ob d 3 [.ref ro, .ref tb, .ref ka, .int (nI kd)], ia E ka 3600 kn, ia E ga 180 gf2_47, ia E pa 3 pf2_47, ia E ba 3 bf2_47]) [] (c_X7_append E rs ra rb r1 r2 i (bf2_47 i) (nI 0) (by omega)) (gi_V tw_ml_X0_59 tw_im_X7_append tw_se_X7_append tw_in_X7 tw_co_X7_append) 2 rfl (by decide) ⟨rfl, rfl, by decide, by decide, Nat.zero_le _, Nat.zero_le _⟩ 7 0 rfl rfl [8, 9, 10] [0, 1, 2, 3, 4, 5, 6, 7] [0, 1, 2, 3, 4, 5, 6, 7, 8, 9, 10] (fun u => [ob e 0 [.ref m, .ref d, .ref ga, .ref pa, .ref ba, .int (nI rad2_47), .int (nI s2_47)], ob m 5 [.ref a, .int (nI k)], ia E a 60 f, ob d 3 [.ref ro, .ref tb, .ref ka, .int (nI kd)], ia E ka 3600 kn, ia E ga 180 gf2_47, ia E pa 3 pf2_47, ia E ba 3 bf2_47, ob rs 7 [.ref ra, .ref rb, .int (nI (i + 1))], ia E ra 60 (upd r1 i (bf2_47 i)), ia E rb 60 (upd r2 i (nI 0))]) rfl rfl (by decide) (fun _ => rfl) rfl (Nat.le_of_ble_eq_true rfl) dX0_take_69 (fun u hu_69 => ?_)
            refine g_iinc F (nI (i + 1)) 3 3 [(0, .ref e), (1, .int (nI 3)), (2, .ref rs), (3, .int (nI (i + 1)))] [1, 2, 3, 0] dX0_take_72 rfl (n_inc i) (by decide) rfl ?_
            refine g_goto F 56 dX0_take_75 (by decide) ?_
            exact ih_56 (i + 1) (upd r1 i (bf2_47 i)) (upd r2 i (nI 0)) (by omega) (lt_s (fun j hj => ⟨(pk_un (by omega)).trans (hr j hj).1, (pk_un (by omega)).trans (hr j hj).2⟩) ⟨pk_us.trans (hb9 hbsp.2.2.1 i (by omega)), pk_us⟩) (by omega)
      exact lp_56 _ 0 rf rg (by omega) (fun j hj => absurd hj (Nat.not_lt_zero j)) (Nat.lt_succ_self _)
    · subst c_36
      refine g_aload_n F 0 rfl dX0_take_39 ?_
      refine g_cVv F (wr := [ob rs 7 [.ref ra, .ref rb, .int (nI rk)], ia E ra 60 rf, ia E rb 60 rg]) [] (c_X0_tryTwos E e ga pa ba (fl gf 180 (nI 100000)) pf bf 0 m a f k d ro tb ka kn kd b dd I (hb) (hI) (hd) (by omega) (by omega) (fun j hj => fl_at (by omega))) (gi_V tw_ml_X0_48 tw_im_X0_tryTwos tw_se_X0_tryTwos tw_in_X0 tw_co_X0_tryTwos) 0 rfl (by decide) ⟨rfl, rfl, by decide, by decide, Nat.zero_le _, Nat.zero_le _⟩ 0 0 rfl rfl [0, 1, 2, 3, 4, 5, 6, 7] [8, 9, 10] [3, 4, 5, 6, 7, 8, 9, 10, 0, 1, 2] (fun u => [ob e 0 [.ref m, .ref d, .ref ga, .ref pa, .ref ba, .int (nI u.2.2.2.1), .int (nI u.2.2.2.2)], ob m 5 [.ref a, .int (nI k)], ia E a 60 f, ob d 3 [.ref ro, .ref tb, .ref ka, .int (nI kd)], ia E ka 3600 kn, ia E ga 180 u.1, ia E pa 3 u.2.1, ia E ba 3 u.2.2.1, ob rs 7 [.ref ra, .ref rb, .int (nI rk)], ia E ra 60 rf, ia E rb 60 rg]) rfl rfl (by decide) (fun _ => rfl) rfl (Nat.le_of_ble_eq_true rfl) dX0_take_40 (fun u hu_40 => ?_)
      obtain ⟨gf2_40, pf2_40, bf2_40, rad2_40, s2_40⟩ := u
      refine g_ws [ob e 0 [.ref m, .ref d, .ref ga, .ref pa, .ref ba, .int (nI rad2_40), .int (nI s2_40)], ob m 5 [.ref a, .int (nI k)], ia E a 60 f, ob d 3 [.ref ro, .ref tb, .ref ka, .int (nI kd)], ia E ka 3600 kn, ia E ga 180 gf2_40, ia E pa 3 pf2_40, ia E ba 3 bf2_40, ob rs 7 [.ref ra, .ref rb, .int (nI rk)], ia E ra 60 rf, ia E rb 60 rg] rfl ?_
      dsimp only at hu_40
      refine g_goto F 50 dX0_take_43 (by decide) ?_
      obtain ⟨-, bt9, hb9, hB9⟩ := hu_40
      have hbsp : BSP dd I 1 bt9 rad2_40 := bsp_of hb hI (by omega) hB9
      refine g_aload_n F 2 rfl dX0_take_50 ?_
      refine g_cVv F (wr := [ob e 0 [.ref m, .ref d, .ref ga, .ref pa, .ref ba, .int (nI rad2_40), .int (nI s2_40)], ob m 5 [.ref a, .int (nI k)], ia E a 60 f, ob d 3 [.ref ro, .ref tb, .ref ka, .int (nI kd)], ia E ka 3600 kn, ia E ga 180 gf2_40, ia E pa 3 pf2_40, ia E ba 3 bf2_40]) [] (c_X7_clear E rs ra rb rf rg rk ) (gi_V tw_ml_X0_54 tw_im_X7_clear tw_se_X7_clear tw_in_X7 tw_co_X7_clear) 0 rfl (by decide) ⟨rfl, rfl, by decide, by decide, Nat.zero_le _, Nat.zero_le _⟩ 7 0 rfl rfl [8, 9, 10] [0, 1, 2, 3, 4, 5, 6, 7] [0, 1, 2, 3, 4, 5, 6, 7, 8, 9, 10] (fun u => [ob e 0 [.ref m, .ref d, .ref ga, .ref pa, .ref ba, .int (nI rad2_40), .int (nI s2_40)], ob m 5 [.ref a, .int (nI k)], ia E a 60 f, ob d 3 [.ref ro, .ref tb, .ref ka, .int (nI kd)], ia E ka 3600 kn, ia E ga 180 gf2_40, ia E pa 3 pf2_40, ia E ba 3 bf2_40, ob rs 7 [.ref ra, .ref rb, .int (nI 0)], ia E ra 60 rf, ia E rb 60 rg]) rfl rfl (by decide) (fun _ => rfl) rfl (Nat.le_of_ble_eq_true rfl) dX0_take_51 (fun u hu_51 => ?_)
      refine g_iconst F (nI 0) (by decide) dX0_take_54 ?_
      refine g_istore_n F 3 [(0, .ref e), (1, .int (nI 2)), (2, .ref rs), (3, .int (nI 0))] [1, 2, 3, 0] dX0_take_55 rfl (by decide) rfl ?_
      have lp_56 : ∀ (n_56 : Nat) (i : Nat) (r1 : Nat → Int32) (r2 : Nat → Int32), (i ≤ 2) → (∀ j, j < i → r1 j = nI (bt9 j) ∧ r2 j = nI 0) → 2 - i < n_56 → GW E X 0 0 [ob e 0 [.ref m, .ref d, .ref ga, .ref pa, .ref ba, .int (nI rad2_40), .int (nI s2_40)], ob m 5 [.ref a, .int (nI k)], ia E a 60 f, ob d 3 [.ref ro, .ref tb, .ref ka, .int (nI kd)], ia E ka 3600 kn, ia E ga 180 gf2_40, ia E pa 3 pf2_40, ia E ba 3 bf2_40, ob rs 7 [.ref ra, .ref rb, .int (nI i)], ia E ra 60 r1, ia E rb 60 r2] [(0, .ref e), (1, .int (nI 2)), (2, .ref rs), (3, .int (nI i))] 56 [] := by
        intro n_56
        induction n_56 with
        | zero => intro i r1 r2 hi hr hm_56; exact absurd hm_56 (Nat.not_lt_zero _)
        | succ n_56 ih_56 =>
          intro i r1 r2 hi hr hm_56
          refine g_iload_n F 3 rfl dX0_take_56 ?_
          refine g_iload_n F 1 rfl dX0_take_57 ?_
          refine n_icmp_ge F 78 dX0_take_58 (by decide) (by omega) (by omega) (fun c_58 => ?_) (fun c_58 => ?_)
          · obtain rfl : i = 2 := by omega
            refine g_aload_n F 0 rfl dX0_take_78 ?_
            refine g_get F 0 0 5 inX0 rfl rfl (by decide) tw_fl_X0_21 rfl dX0_take_79 ?_
            exact R _ ((gf2_40, pf2_40, bf2_40, rad2_40, s2_40, r1, r2)) _ _ dX0_take_82 (by (try dsimp only); exact (⟨bt9, rfl, hbsp, fun j hj => hr j (by omega)⟩))
          · refine g_aload_n F 2 rfl dX0_take_61 ?_
            refine g_aload_n F 0 rfl dX0_take_62 ?_
            refine g_get F 0 0 4 inX0 rfl rfl (by decide) tw_fl_X0_18 rfl dX0_take_63 ?_
            refine g_iload_n F 3 rfl dX0_take_66 ?_
            refine g_iald F 7 rfl (by omega) (by decide) dX0_take_67 ?_
            refine g_iconst F (nI 0) (by decide) dX0_take_68 ?_
            refine g_cVv F (wr := [ob e 0 [.ref m, .ref d, .ref ga, .ref pa, .ref ba, .int (nI rad2_40), .int (nI s2_40)], ob m 5 [.ref a, .int (nI k)], ia E a 60 f, ob d 3 [.ref ro, .ref tb, .ref ka, .int (nI kd)], ia E ka 3600 kn, ia E ga 180 gf2_40, ia E pa 3 pf2_40, ia E ba 3 bf2_40]) [] (c_X7_append E rs ra rb r1 r2 i (bf2_40 i) (nI 0) (by omega)) (gi_V tw_ml_X0_59 tw_im_X7_append tw_se_X7_append tw_in_X7 tw_co_X7_append) 2 rfl (by decide) ⟨rfl, rfl, by decide, by decide, Nat.zero_le _, Nat.zero_le _⟩ 7 0 rfl rfl [8, 9, 10] [0, 1, 2, 3, 4, 5, 6, 7] [0, 1, 2, 3, 4, 5, 6, 7, 8, 9, 10] (fun u => [ob e 0 [.ref m, .ref d, .ref ga, .ref pa, .ref ba, .int (nI rad2_40), .int (nI s2_40)], ob m 5 [.ref a, .int (nI k)], ia E a 60 f, ob d 3 [.ref ro, .ref tb, .ref ka, .int (nI kd)], ia E ka 3600 kn, ia E ga 180 gf2_40, ia E pa 3 pf2_40, ia E ba 3 bf2_40, ob rs 7 [.ref ra, .ref rb, .int (nI (i + 1))], ia E ra 60 (upd r1 i (bf2_40 i)), ia E rb 60 (upd r2 i (nI 0))]) rfl rfl (by decide) (fun _ => rfl) rfl (Nat.le_of_ble_eq_true rfl) dX0_take_69 (fun u hu_69 => ?_)
            refine g_iinc F (nI (i + 1)) 3 3 [(0, .ref e), (1, .int (nI 2)), (2, .ref rs), (3, .int (nI (i + 1)))] [1, 2, 3, 0] dX0_take_72 rfl (n_inc i) (by decide) rfl ?_
            refine g_goto F 56 dX0_take_75 (by decide) ?_
            exact ih_56 (i + 1) (upd r1 i (bf2_40 i)) (upd r2 i (nI 0)) (by omega) (lt_s (fun j hj => ⟨(pk_un (by omega)).trans (hr j hj).1, (pk_un (by omega)).trans (hr j hj).2⟩) ⟨pk_us.trans (hb9 hbsp.2.2.1 i (by omega)), pk_us⟩) (by omega)
      exact lp_56 _ 0 rf rg (by omega) (fun j hj => absurd hj (Nat.not_lt_zero j)) (Nat.lt_succ_self _)
  · subst c_22
    refine g_aload_n F 0 rfl dX0_take_25 ?_
    refine g_iconst F (nI 0) (by decide) dX0_take_26 ?_
    refine g_iconst F (nI 0) (by decide) dX0_take_27 ?_
    refine g_cVv F (wr := [ob rs 7 [.ref ra, .ref rb, .int (nI rk)], ia E ra 60 rf, ia E rb 60 rg]) [] (c_X0_tryLast E e ga pa ba (fl gf 180 (nI 100000)) pf bf 100001 0 m a f k d ro tb ka kn kd b dd (fun _ => 0) I (fun _ => False) (fun _ => 0) 0 0 (hb) (hI) (hd) (by decide) (fun j hj => fl_at (by omega)) (by omega) (by omega) (fun j hj => absurd hj (Nat.not_lt_zero j)) (fun z => absurd z (by omega)) (Or.inl ⟨rfl, fun _ z => z⟩) (fun i _ hi => ⟨fun x hx => by
        obtain rfl : x = 0 := by omega
        rw [setN_s]
        exact hI.at hi, fun x hx => absurd hx (Nat.not_lt_zero x)⟩) (fun _ _ _ _ z => z.elim)) (gi_V tw_ml_X0_44 tw_im_X0_tryLast tw_se_X0_tryLast tw_in_X0 tw_co_X0_tryLast) 2 rfl (by decide) ⟨rfl, rfl, by decide, by decide, Nat.zero_le _, Nat.zero_le _⟩ 0 0 rfl rfl [0, 1, 2, 3, 4, 5, 6, 7] [8, 9, 10] [3, 4, 5, 6, 7, 8, 9, 10, 0, 1, 2] (fun u => [ob e 0 [.ref m, .ref d, .ref ga, .ref pa, .ref ba, .int (nI u.2.2.1), .int (nI u.2.2.2)], ob m 5 [.ref a, .int (nI k)], ia E a 60 f, ob d 3 [.ref ro, .ref tb, .ref ka, .int (nI kd)], ia E ka 3600 kn, ia E ga 180 ((fl gf 180 (nI 100000))), ia E pa 3 u.1, ia E ba 3 u.2.1, ob rs 7 [.ref ra, .ref rb, .int (nI rk)], ia E ra 60 rf, ia E rb 60 rg]) rfl rfl (by decide) (fun _ => rfl) rfl (Nat.le_of_ble_eq_true rfl) dX0_take_28 (fun u hu_28 => ?_)
    obtain ⟨pf2_28, bf2_28, rad2_28, s2_28⟩ := u
    refine g_ws [ob e 0 [.ref m, .ref d, .ref ga, .ref pa, .ref ba, .int (nI rad2_28), .int (nI s2_28)], ob m 5 [.ref a, .int (nI k)], ia E a 60 f, ob d 3 [.ref ro, .ref tb, .ref ka, .int (nI kd)], ia E ka 3600 kn, ia E ga 180 ((fl gf 180 (nI 100000))), ia E pa 3 pf2_28, ia E ba 3 bf2_28, ob rs 7 [.ref ra, .ref rb, .int (nI rk)], ia E ra 60 rf, ia E rb 60 rg] rfl ?_
    dsimp only at hu_28
    refine g_goto F 50 dX0_take_31 (by decide) ?_
    obtain ⟨-, -, bt9, hb9, hB9⟩ := hu_28
    have hbsp : BSP dd I 0 bt9 rad2_28 := bsp_of hb hI (by omega) (bsi_iff hB9 (fun t2 => ⟨fun z => z.elim False.elim (fun ⟨i, _, y2, y3⟩ => ⟨fun x hx => by
        obtain rfl : x = 0 := by omega
        rw [y3 0 (Nat.le_refl _), setN_s]
        exact hI.at y2, fun x hx => absurd hx (Nat.not_lt_zero x)⟩), fun z => Or.inr (by
        obtain ⟨i, hi, e9⟩ := (hI (t2 0)).mp (z.1 0 (Nat.le_refl _))
        exact ⟨i, Nat.zero_le _, hi, fun x hx => by
          obtain rfl : x = 0 := by omega
          rw [setN_s, e9]⟩)⟩))
    refine g_aload_n F 2 rfl dX0_take_50 ?_
    refine g_cVv F (wr := [ob e 0 [.ref m, .ref d, .ref ga, .ref pa, .ref ba, .int (nI rad2_28), .int (nI s2_28)], ob m 5 [.ref a, .int (nI k)], ia E a 60 f, ob d 3 [.ref ro, .ref tb, .ref ka, .int (nI kd)], ia E ka 3600 kn, ia E ga 180 ((fl gf 180 (nI 100000))), ia E pa 3 pf2_28, ia E ba 3 bf2_28]) [] (c_X7_clear E rs ra rb rf rg rk ) (gi_V tw_ml_X0_54 tw_im_X7_clear tw_se_X7_clear tw_in_X7 tw_co_X7_clear) 0 rfl (by decide) ⟨rfl, rfl, by decide, by decide, Nat.zero_le _, Nat.zero_le _⟩ 7 0 rfl rfl [8, 9, 10] [0, 1, 2, 3, 4, 5, 6, 7] [0, 1, 2, 3, 4, 5, 6, 7, 8, 9, 10] (fun u => [ob e 0 [.ref m, .ref d, .ref ga, .ref pa, .ref ba, .int (nI rad2_28), .int (nI s2_28)], ob m 5 [.ref a, .int (nI k)], ia E a 60 f, ob d 3 [.ref ro, .ref tb, .ref ka, .int (nI kd)], ia E ka 3600 kn, ia E ga 180 ((fl gf 180 (nI 100000))), ia E pa 3 pf2_28, ia E ba 3 bf2_28, ob rs 7 [.ref ra, .ref rb, .int (nI 0)], ia E ra 60 rf, ia E rb 60 rg]) rfl rfl (by decide) (fun _ => rfl) rfl (Nat.le_of_ble_eq_true rfl) dX0_take_51 (fun u hu_51 => ?_)
    refine g_iconst F (nI 0) (by decide) dX0_take_54 ?_
    refine g_istore_n F 3 [(0, .ref e), (1, .int (nI 1)), (2, .ref rs), (3, .int (nI 0))] [1, 2, 3, 0] dX0_take_55 rfl (by decide) rfl ?_
    have lp_56 : ∀ (n_56 : Nat) (i : Nat) (r1 : Nat → Int32) (r2 : Nat → Int32), (i ≤ 1) → (∀ j, j < i → r1 j = nI (bt9 j) ∧ r2 j = nI 0) → 1 - i < n_56 → GW E X 0 0 [ob e 0 [.ref m, .ref d, .ref ga, .ref pa, .ref ba, .int (nI rad2_28), .int (nI s2_28)], ob m 5 [.ref a, .int (nI k)], ia E a 60 f, ob d 3 [.ref ro, .ref tb, .ref ka, .int (nI kd)], ia E ka 3600 kn, ia E ga 180 ((fl gf 180 (nI 100000))), ia E pa 3 pf2_28, ia E ba 3 bf2_28, ob rs 7 [.ref ra, .ref rb, .int (nI i)], ia E ra 60 r1, ia E rb 60 r2] [(0, .ref e), (1, .int (nI 1)), (2, .ref rs), (3, .int (nI i))] 56 [] := by
      intro n_56
      induction n_56 with
      | zero => intro i r1 r2 hi hr hm_56; exact absurd hm_56 (Nat.not_lt_zero _)
      | succ n_56 ih_56 =>
        intro i r1 r2 hi hr hm_56
        refine g_iload_n F 3 rfl dX0_take_56 ?_
        refine g_iload_n F 1 rfl dX0_take_57 ?_
        refine n_icmp_ge F 78 dX0_take_58 (by decide) (by omega) (by omega) (fun c_58 => ?_) (fun c_58 => ?_)
        · obtain rfl : i = 1 := by omega
          refine g_aload_n F 0 rfl dX0_take_78 ?_
          refine g_get F 0 0 5 inX0 rfl rfl (by decide) tw_fl_X0_21 rfl dX0_take_79 ?_
          exact R _ (((fl gf 180 (nI 100000)), pf2_28, bf2_28, rad2_28, s2_28, r1, r2)) _ _ dX0_take_82 (by (try dsimp only); exact (⟨bt9, rfl, hbsp, fun j hj => hr j (by omega)⟩))
        · refine g_aload_n F 2 rfl dX0_take_61 ?_
          refine g_aload_n F 0 rfl dX0_take_62 ?_
          refine g_get F 0 0 4 inX0 rfl rfl (by decide) tw_fl_X0_18 rfl dX0_take_63 ?_
          refine g_iload_n F 3 rfl dX0_take_66 ?_
          refine g_iald F 7 rfl (by omega) (by decide) dX0_take_67 ?_
          refine g_iconst F (nI 0) (by decide) dX0_take_68 ?_
          refine g_cVv F (wr := [ob e 0 [.ref m, .ref d, .ref ga, .ref pa, .ref ba, .int (nI rad2_28), .int (nI s2_28)], ob m 5 [.ref a, .int (nI k)], ia E a 60 f, ob d 3 [.ref ro, .ref tb, .ref ka, .int (nI kd)], ia E ka 3600 kn, ia E ga 180 ((fl gf 180 (nI 100000))), ia E pa 3 pf2_28, ia E ba 3 bf2_28]) [] (c_X7_append E rs ra rb r1 r2 i (bf2_28 i) (nI 0) (by omega)) (gi_V tw_ml_X0_59 tw_im_X7_append tw_se_X7_append tw_in_X7 tw_co_X7_append) 2 rfl (by decide) ⟨rfl, rfl, by decide, by decide, Nat.zero_le _, Nat.zero_le _⟩ 7 0 rfl rfl [8, 9, 10] [0, 1, 2, 3, 4, 5, 6, 7] [0, 1, 2, 3, 4, 5, 6, 7, 8, 9, 10] (fun u => [ob e 0 [.ref m, .ref d, .ref ga, .ref pa, .ref ba, .int (nI rad2_28), .int (nI s2_28)], ob m 5 [.ref a, .int (nI k)], ia E a 60 f, ob d 3 [.ref ro, .ref tb, .ref ka, .int (nI kd)], ia E ka 3600 kn, ia E ga 180 ((fl gf 180 (nI 100000))), ia E pa 3 pf2_28, ia E ba 3 bf2_28, ob rs 7 [.ref ra, .ref rb, .int (nI (i + 1))], ia E ra 60 (upd r1 i (bf2_28 i)), ia E rb 60 (upd r2 i (nI 0))]) rfl rfl (by decide) (fun _ => rfl) rfl (Nat.le_of_ble_eq_true rfl) dX0_take_69 (fun u hu_69 => ?_)
          refine g_iinc F (nI (i + 1)) 3 3 [(0, .ref e), (1, .int (nI 1)), (2, .ref rs), (3, .int (nI (i + 1)))] [1, 2, 3, 0] dX0_take_72 rfl (n_inc i) (by decide) rfl ?_
          refine g_goto F 56 dX0_take_75 (by decide) ?_
          exact ih_56 (i + 1) (upd r1 i (bf2_28 i)) (upd r2 i (nI 0)) (by omega) (lt_s (fun j hj => ⟨(pk_un (by omega)).trans (hr j hj).1, (pk_un (by omega)).trans (hr j hj).2⟩) ⟨pk_us.trans (hb9 hbsp.2.2.1 i (by omega)), pk_us⟩) (by omega)
    exact lp_56 _ 0 rf rg (by omega) (fun j hj => absurd hj (Nat.not_lt_zero j)) (Nat.lt_succ_self _)
