/-- the book as a set -/
def BK (b : Nat → Nat) (k : Nat) (I : Nat → Bool) : Prop := ∀ t, I t = true ↔ ∃ i, i < k ∧ b i = t
theorem BK.at {b : Nat → Nat} {k i : Nat} {I : Nat → Bool} (h : BK b k I) (hi : i < k) : I (b i) = true := (h _).mpr ⟨i, hi, rfl⟩
theorem mb_inj {f : Nat → Int32} {k : Nat} {b : Nat → Nat} (h : MB f k b) {i j : Nat} (hi : i < k) (hj : j < k) (e : b i = b j) : i = j := by
  rcases Nat.lt_trichotomy i j with q | q | q
  · have := h.2.2 i j q hj; omega
  · exact q
  · have := h.2.2 j i q hi; omega
/-- connected by steps of at most r -/
def CN (dd : Nat → Nat → Nat) (r : Nat) (I : Nat → Bool) (x y : Nat) : Prop := ∀ P : Nat → Prop, P x → (∀ u v, I u = true → I v = true → P u → (dd u v ≤ r ∨ dd v u ≤ r) → P v) → P y
theorem CN.rf {dd : Nat → Nat → Nat} {r : Nat} {I : Nat → Bool} (x : Nat) : CN dd r I x x := fun _ h _ => h
theorem CN.step {dd : Nat → Nat → Nat} {r x u v : Nat} {I : Nat → Bool} (h : CN dd r I x u) (hu : I u = true) (hv : I v = true) (hd : dd u v ≤ r ∨ dd v u ≤ r) : CN dd r I x v := fun P h0 hs => hs u v hu hv (h P h0 hs) hd
theorem CN.trans {dd : Nat → Nat → Nat} {r x y z : Nat} {I : Nat → Bool} (h : CN dd r I x y) (h2 : CN dd r I y z) : CN dd r I x z := fun P h0 hs => h2 P (h P h0 hs) hs
theorem CN.symm {dd : Nat → Nat → Nat} {r x y : Nat} {I : Nat → Bool} (h : CN dd r I x y) : CN dd r I y x := h (fun z => CN dd r I z x) (CN.rf x) (fun u v hu hv hp hd => CN.trans (CN.step (CN.rf v) hv hu hd.symm) hp)
/-- the lowest number of each piece -/
def LAB (dd : Nat → Nat → Nat) (r : Nat) (I : Nat → Bool) (lab : Nat → Nat) : Prop := (∀ x y, I x = true → I y = true → dd x y ≤ r → lab x = lab y) ∧ ∀ x, I x = true → I (lab x) = true ∧ CN dd r I x (lab x) ∧ lab x ≤ x
theorem lab_cn {dd : Nat → Nat → Nat} {r : Nat} {I : Nat → Bool} {lab : Nat → Nat} (h : LAB dd r I lab) {x y : Nat} (hc : CN dd r I x y) : lab x = lab y := by
  have := hc (fun z => lab x = lab z) rfl (fun u v hu hv e hd => by
    rcases hd with q | q
    · exact e.trans (h.1 u v hu hv q)
    · exact e.trans (h.1 v u hv hu q).symm)
  exact this
theorem lab_uni {dd : Nat → Nat → Nat} {r : Nat} {I : Nat → Bool} {l1 l2 : Nat → Nat} (h1 : LAB dd r I l1) (h2 : LAB dd r I l2) {x : Nat} (hx : I x = true) : l1 x = l2 x := by
  obtain ⟨a1, a2, a3⟩ := h1.2 x hx
  obtain ⟨b1, b2, b3⟩ := h2.2 x hx
  have e1 := lab_cn h2 a2
  have e2 := lab_cn h1 b2
  have c1 := (h2.2 _ a1).2.2
  have c2 := (h1.2 _ b1).2.2
  omega
def jn (lab : Nat → Nat) (u v t : Nat) : Nat := if lab t = Nat.max u v then Nat.min u v else lab t
theorem jn_same (lab : Nat → Nat) (u t : Nat) : jn lab u u t = lab t := by
  unfold jn
  rw [show Nat.max u u = u from Nat.max_self u, show Nat.min u u = u from Nat.min_self u]
  split <;> simp [*]
theorem nmin_cases (u v : Nat) : (Nat.min u v = u ∧ Nat.max u v = v ∧ u ≤ v) ∨ (Nat.min u v = v ∧ Nat.max u v = u ∧ v ≤ u) := by
  rcases Nat.le_total u v with q | q
  · exact Or.inl ⟨Nat.min_eq_left q, Nat.max_eq_right q, q⟩
  · exact Or.inr ⟨Nat.min_eq_right q, Nat.max_eq_left q, q⟩
theorem jn_both (lab : Nat → Nat) (x y : Nat) : jn lab (lab x) (lab y) x = jn lab (lab x) (lab y) y := by
  unfold jn
  rcases nmin_cases (lab x) (lab y) with ⟨e1, e2, e3⟩ | ⟨e1, e2, e3⟩
  · rw [e1, e2, if_pos rfl]
    split
    · rfl
    · rfl
  · rw [e1, e2, if_pos rfl]
    split
    · rfl
    · rfl
theorem jn_eq {lab : Nat → Nat} {u v x y : Nat} (h : lab x = lab y) : jn lab u v x = jn lab u v y := by unfold jn; rw [h]
theorem jn_ok {dd : Nat → Nat → Nat} {r : Nat} {I : Nat → Bool} {lab : Nat → Nat} (h : ∀ x, I x = true → I (lab x) = true ∧ CN dd r I x (lab x) ∧ lab x ≤ x) {p q : Nat} (hp : I p = true) (hq : I q = true) (hd : dd p q ≤ r) : ∀ x, I x = true → I (jn lab (lab p) (lab q) x) = true ∧ CN dd r I x (jn lab (lab p) (lab q) x) ∧ jn lab (lab p) (lab q) x ≤ x := by
  have hpq : CN dd r I (lab p) (lab q) := CN.trans (CN.trans (h p hp).2.1.symm (CN.step (CN.rf p) hp hq (Or.inl hd))) (h q hq).2.1
  intro x hx
  obtain ⟨a1, a2, a3⟩ := h x hx
  unfold jn
  by_cases c : lab x = Nat.max (lab p) (lab q)
  · rw [if_pos c]
    rcases nmin_cases (lab p) (lab q) with ⟨e1, e2, e3⟩ | ⟨e1, e2, e3⟩
    · rw [e1]
      rw [e2] at c
      exact ⟨(h p hp).1, CN.trans a2 (by rw [c]; exact hpq.symm), by omega⟩
    · rw [e1]
      rw [e2] at c
      exact ⟨(h q hq).1, CN.trans a2 (by rw [c]; exact hpq), by omega⟩
  · rw [if_neg c]
    exact ⟨a1, a2, a3⟩
def LBk (b : Nat → Nat) (k : Nat) (lo : Nat → Int32) (lab : Nat → Nat) : Prop := ∀ i, i < k → lo (b i) = nI (lab (b i)) ∧ lab (b i) < 60
def sumB (g : Nat → Nat) (b : Nat → Nat) : Nat → Nat
  | 0 => 0
  | i + 1 => sumB g b i + g (b i)
theorem sumB_le {g b : Nat → Nat} (h : ∀ t, g t ≤ 1) : ∀ k, sumB g b k ≤ k := by
  intro k
  induction k with
  | zero => exact Nat.le_refl _
  | succ k ih =>
    have := h (b k)
    show sumB g b k + g (b k) ≤ _
    omega

set_option maxHeartbeats 4000000 in
set_option maxRecDepth 100000 in
theorem c_X6_lowestWith (E : Ev) (p : Nat) (w : Nat) (m : Nat) (d : Nat) (lo : Nat → Int32) (t : Nat) (ht : t < 60) : RDi E yX6_lowestWith (wq yX6_lowestWith cX6_lowestWith 2 (some .int)) (rmk 0 0) [.ref p, .int (nI t)] [ob p 6 [.ref m, .ref d, .ref w], ia E w 60 lo] (lo t) := by
  refine CTi.of (by decide) (Nat.le_of_ble_eq_true rfl) (fun X F R => ?_)
  refine g_lv [0, 1] [(0, .ref p), (1, .int (nI t))] rfl ?_
  refine g_aload_n F 0 rfl dX6_lowestWith_0 ?_
  refine g_get F 6 0 2 inX6 rfl rfl (by decide) tw_fl_X6_9 rfl dX6_lowestWith_1 ?_
  refine g_iload_n F 1 rfl dX6_lowestWith_4 ?_
  refine g_iald F 1 rfl (by omega) (by decide) dX6_lowestWith_5 ?_
  exact R _ (()) _ _ dX6_lowestWith_6 (rfl)

set_option maxHeartbeats 4000000 in
set_option maxRecDepth 100000 in
theorem c_X6_join (E : Ev) (p : Nat) (w : Nat) (d : Nat) (lo : Nat → Int32) (m : Nat) (a : Nat) (f : Nat → Int32) (k : Nat) (b : Nat → Nat) (lab : Nat → Nat) (x1 : Nat) (x2 : Nat) (hb : MB f k b) (hl : LBk b k lo lab) (hx1 : x1 < 60) (hx2 : x2 < 60) : CTv E yX6_join (wq yX6_join cX6_join 6 none) (rmk 1 21) [.ref p, .int (nI x1), .int (nI x2)] [ob p 6 [.ref m, .ref d, .ref w], ob m 5 [.ref a, .int (nI k)], ia E a 60 f, ia E w 60 lo] (fun (u : (Nat → Int32)) => LBk b k u (jn lab x1 x2)) (fun (u : (Nat → Int32)) => [ob p 6 [.ref m, .ref d, .ref w], ob m 5 [.ref a, .int (nI k)], ia E a 60 f, ia E w 60 u]) := by
  refine CTv.of (by decide) (Nat.le_of_ble_eq_true rfl) (fun X F R => ?_)
  refine g_lv [0, 1, 2] [(0, .ref p), (1, .int (nI x1)), (2, .int (nI x2))] rfl ?_
  have hk := hb.1
  have hmn := nmin_cases x1 x2
  refine g_iload_n F 1 rfl dX6_join_0 ?_
  refine g_iload_n F 2 rfl dX6_join_1 ?_
  refine n_icmp_ne F 6 dX6_join_2 (by decide) (by omega) (by omega) (fun c_2 => ?_) (fun c_2 => ?_)
  · refine g_iload_n F 1 rfl dX6_join_6 ?_
    refine g_iload_n F 2 rfl dX6_join_7 ?_
    refine g_mmin F tw_ml_X6_42 (by decide) (Nat.le_of_ble_eq_true rfl) (Nat.zero_le _) (Nat.zero_le _) dX6_join_8 ?_
    refine g_top _ (n_min x1 x2 (by omega) (by omega)) ?_
    refine g_istore_n F 3 [(0, .ref p), (1, .int (nI x1)), (2, .int (nI x2)), (3, .int (nI (Nat.min x1 x2)))] [1, 2, 3, 0] dX6_join_11 rfl (by decide) rfl ?_
    refine g_iload_n F 1 rfl dX6_join_12 ?_
    refine g_iload_n F 2 rfl dX6_join_13 ?_
    refine g_mmax F tw_ml_X6_47 (by decide) (Nat.le_of_ble_eq_true rfl) (Nat.zero_le _) (Nat.zero_le _) dX6_join_14 ?_
    refine g_top _ (n_max x1 x2 (by omega) (by omega)) ?_
    refine g_istore F 4 [(0, .ref p), (1, .int (nI x1)), (2, .int (nI x2)), (3, .int (nI (Nat.min x1 x2))), (4, .int (nI (Nat.max x1 x2)))] [1, 2, 3, 4, 0] dX6_join_17 (by decide) rfl ?_
    refine g_iconst F (nI 0) (by decide) dX6_join_19 ?_
    refine g_istore F 5 [(0, .ref p), (1, .int (nI x1)), (2, .int (nI x2)), (3, .int (nI (Nat.min x1 x2))), (4, .int (nI (Nat.max x1 x2))), (5, .int (nI 0))] [1, 2, 3, 4, 5, 0] dX6_join_20 (by decide) rfl ?_
    have lp_22 : ∀ (n_22 : Nat) (i : Nat) (g : Nat → Int32), (i ≤ k) → (∀ j, j < i → g (b j) = nI (jn lab x1 x2 (b j))) → (∀ j, i ≤ j → j < k → g (b j) = lo (b j)) → k - i < n_22 → GW E X 0 0 [ob p 6 [.ref m, .ref d, .ref w], ob m 5 [.ref a, .int (nI k)], ia E a 60 f, ia E w 60 g] [(0, .ref p), (1, .int (nI x1)), (2, .int (nI x2)), (3, .int (nI (Nat.min x1 x2))), (4, .int (nI (Nat.max x1 x2))), (5, .int (nI i))] 22 [] := by
      intro n_22
      induction n_22 with
      | zero => intro i g hi g1 g2 hm_22; exact absurd hm_22 (Nat.not_lt_zero _)
      | succ n_22 ih_22 =>
        intro i g hi g1 g2 hm_22
        refine g_iload F 5 rfl dX6_join_22 ?_
        refine g_aload_n F 0 rfl dX6_join_24 ?_
        refine g_get F 6 0 0 inX6 rfl rfl (by decide) tw_fl_X6_15 rfl dX6_join_25 ?_
        refine g_rVi F (wr := [ob p 6 [.ref m, .ref d, .ref w], ia E w 60 g]) [.int (nI i)] (c_X5_size E m a f k ) (gi_V tw_ml_X6_23 tw_im_X5_size tw_se_X5_size tw_in_X5 tw_co_X5_size) 0 rfl (by decide) ⟨rfl, rfl, by decide, by decide, Nat.zero_le _, Nat.zero_le _⟩ 5 0 rfl rfl [1, 2] [0, 3] [0, 2, 3, 1] rfl rfl (by decide) rfl rfl (Nat.le_of_ble_eq_true rfl) dX6_join_28 ?_
        refine n_icmp_ge F 74 dX6_join_31 (by decide) (by omega) (by omega) (fun c_31 => ?_) (fun c_31 => ?_)
        · exact R g _ _ dX6_join_74 (fun j hj => ⟨g1 j (by omega), by
      unfold jn
      have := (hl j hj).2
      split <;> omega⟩)
        · refine g_aload_n F 0 rfl dX6_join_34 ?_
          refine g_get F 6 0 2 inX6 rfl rfl (by decide) tw_fl_X6_9 rfl dX6_join_35 ?_
          refine g_aload_n F 0 rfl dX6_join_38 ?_
          refine g_get F 6 0 0 inX6 rfl rfl (by decide) tw_fl_X6_15 rfl dX6_join_39 ?_
          refine g_iload F 5 rfl dX6_join_42 ?_
          refine g_rVi F (wr := [ob p 6 [.ref m, .ref d, .ref w], ia E w 60 g]) [.ref w] (c_X5_at E m a f k b i (fun i hi => (hb.2.1 i hi).1) (by omega) (by omega)) (gi_V tw_ml_X6_29 tw_im_X5_at tw_se_X5_at tw_in_X5 tw_co_X5_at) 1 rfl (by decide) ⟨rfl, rfl, by decide, by decide, Nat.zero_le _, Nat.zero_le _⟩ 5 0 rfl rfl [1, 2] [0, 3] [0, 2, 3, 1] rfl rfl (by decide) rfl rfl (Nat.le_of_ble_eq_true rfl) dX6_join_44 ?_
          refine g_iald F 3 rfl ((hb.2.1 i (by omega)).2) (by decide) dX6_join_47 ?_
          refine g_top (nI (lab (b i))) ((g2 i (Nat.le_refl _) c_31).trans (hl i c_31).1) ?_
          refine g_iload F 4 rfl dX6_join_48 ?_
          refine n_icmp_ne F 68 dX6_join_50 (by decide) (by have := (hl i (by omega)).2; omega) (by omega) (fun c_50 => ?_) (fun c_50 => ?_)
          · refine g_iinc F (nI (i + 1)) 5 5 [(0, .ref p), (1, .int (nI x1)), (2, .int (nI x2)), (3, .int (nI (Nat.min x1 x2))), (4, .int (nI (Nat.max x1 x2))), (5, .int (nI (i + 1)))] [1, 2, 3, 4, 5, 0] dX6_join_68 rfl (n_inc i) (by decide) rfl ?_
            refine g_goto F 22 dX6_join_71 (by decide) ?_
            exact ih_22 (i + 1) g (by omega) (lt_s g1 (by rw [g2 i (Nat.le_refl _) c_31, (hl i c_31).1]; unfold jn; rw [if_neg c_50])) (fun j h1 h2 => g2 j (by omega) h2) (by omega)
          · refine g_aload_n F 0 rfl dX6_join_53 ?_
            refine g_get F 6 0 2 inX6 rfl rfl (by decide) tw_fl_X6_9 rfl dX6_join_54 ?_
            refine g_aload_n F 0 rfl dX6_join_57 ?_
            refine g_get F 6 0 0 inX6 rfl rfl (by decide) tw_fl_X6_15 rfl dX6_join_58 ?_
            refine g_iload F 5 rfl dX6_join_61 ?_
            refine g_rVi F (wr := [ob p 6 [.ref m, .ref d, .ref w], ia E w 60 g]) [.ref w] (c_X5_at E m a f k b i (fun i hi => (hb.2.1 i hi).1) (by omega) (by omega)) (gi_V tw_ml_X6_29 tw_im_X5_at tw_se_X5_at tw_in_X5 tw_co_X5_at) 1 rfl (by decide) ⟨rfl, rfl, by decide, by decide, Nat.zero_le _, Nat.zero_le _⟩ 5 0 rfl rfl [1, 2] [0, 3] [0, 2, 3, 1] rfl rfl (by decide) rfl rfl (Nat.le_of_ble_eq_true rfl) dX6_join_63 ?_
            refine g_iload_n F 3 rfl dX6_join_66 ?_
            refine g_iast F 3 [ob p 6 [.ref m, .ref d, .ref w], ob m 5 [.ref a, .int (nI k)], ia E a 60 f, ia E w 60 (upd g (b i) (nI (Nat.min x1 x2)))] rfl ((hb.2.1 i (by omega)).2) (by decide) rfl dX6_join_67 ?_
            refine g_iinc F (nI (i + 1)) 5 5 [(0, .ref p), (1, .int (nI x1)), (2, .int (nI x2)), (3, .int (nI (Nat.min x1 x2))), (4, .int (nI (Nat.max x1 x2))), (5, .int (nI (i + 1)))] [1, 2, 3, 4, 5, 0] dX6_join_68 rfl (n_inc i) (by decide) rfl ?_
            refine g_goto F 22 dX6_join_71 (by decide) ?_
            exact ih_22 (i + 1) (upd g (b i) (nI (Nat.min x1 x2))) (by omega) (lt_s (fun j hj => (pk_un (fun e => by have := mb_inj hb (by omega) (by omega) e; omega)).trans (g1 j hj)) (by rw [pk_us]; unfold jn; rw [if_pos c_50])) (fun j h1 h2 => (pk_un (fun e => by have := mb_inj hb (by omega) (by omega) e; omega)).trans (g2 j (by omega) h2)) (by omega)
    exact lp_22 _ 0 lo (by omega) (fun j h => absurd h (Nat.not_lt_zero j)) (fun _ _ _ => rfl) (Nat.lt_succ_self _)
  · exact R lo _ _ dX6_join_5 (fun j hj => by rw [show x2 = x1 from c_2.symm, jn_same]; exact hl j hj)

set_option maxHeartbeats 4000000 in
set_option maxRecDepth 100000 in
theorem c_X6_gather (E : Ev) (p : Nat) (w : Nat) (lo : Nat → Int32) (m : Nat) (a : Nat) (f : Nat → Int32) (k : Nat) (d : Nat) (ro : Nat) (tb : Nat) (ka : Nat) (kn : Nat → Int32) (kd : Nat) (b : Nat → Nat) (I : Nat → Bool) (dd : Nat → Nat → Nat) (r : Nat) (hb : MB f k b) (hI : BK b k I) (hr : r < 2 ^ 31) (hd : ∀ i j, i < k → j < k → kn (b i * 60 + b j) = nI (dd (b i) (b j)) ∧ dd (b i) (b j) ≤ 100000) (hsy : ∀ x y, I x = true → I y = true → dd x y = dd y x) : CTv E yX6_gather (wq yX6_gather cX6_gather 4 none) (rmk 2 46) [.ref p, .int (nI r)] [ob p 6 [.ref m, .ref d, .ref w], ob m 5 [.ref a, .int (nI k)], ia E a 60 f, ob d 3 [.ref ro, .ref tb, .ref ka, .int (nI kd)], ia E ka 3600 kn, ia E w 60 lo] (fun (u : (Nat → Int32)) => ∃ lab, LBk b k u lab ∧ LAB dd r I lab) (fun (u : (Nat → Int32)) => [ob p 6 [.ref m, .ref d, .ref w], ob m 5 [.ref a, .int (nI k)], ia E a 60 f, ob d 3 [.ref ro, .ref tb, .ref ka, .int (nI kd)], ia E ka 3600 kn, ia E w 60 u]) := by
  refine CTv.of (by decide) (Nat.le_of_ble_eq_true rfl) (fun X F R => ?_)
  refine g_lv [0, 1] [(0, .ref p), (1, .int (nI r))] rfl ?_
  have hk := hb.1
  refine g_iconst F (nI 0) (by decide) dX6_gather_0 ?_
  refine g_istore_n F 2 [(0, .ref p), (1, .int (nI r)), (2, .int (nI 0))] [1, 2, 0] dX6_gather_1 rfl (by decide) rfl ?_
  have lp_2 : ∀ (n_2 : Nat) (i : Nat) (g : Nat → Int32), (i ≤ k) → (∀ j, j < i → g (b j) = nI (b j)) → k - i < n_2 → GW E X 0 0 [ob p 6 [.ref m, .ref d, .ref w], ob m 5 [.ref a, .int (nI k)], ia E a 60 f, ob d 3 [.ref ro, .ref tb, .ref ka, .int (nI kd)], ia E ka 3600 kn, ia E w 60 g] [(0, .ref p), (1, .int (nI r)), (2, .int (nI i))] 2 [] := by
    intro n_2
    induction n_2 with
    | zero => intro i g hi g1 hm_2; exact absurd hm_2 (Nat.not_lt_zero _)
    | succ n_2 ih_2 =>
      intro i g hi g1 hm_2
      refine g_iload_n F 2 rfl dX6_gather_2 ?_
      refine g_aload_n F 0 rfl dX6_gather_3 ?_
      refine g_get F 6 0 0 inX6 rfl rfl (by decide) tw_fl_X6_15 rfl dX6_gather_4 ?_
      refine g_rVi F (wr := [ob p 6 [.ref m, .ref d, .ref w], ob d 3 [.ref ro, .ref tb, .ref ka, .int (nI kd)], ia E ka 3600 kn, ia E w 60 g]) [.int (nI i)] (c_X5_size E m a f k ) (gi_V tw_ml_X6_23 tw_im_X5_size tw_se_X5_size tw_in_X5 tw_co_X5_size) 0 rfl (by decide) ⟨rfl, rfl, by decide, by decide, Nat.zero_le _, Nat.zero_le _⟩ 5 0 rfl rfl [1, 2] [0, 3, 4, 5] [0, 4, 5, 1, 2, 3] rfl rfl (by decide) rfl rfl (Nat.le_of_ble_eq_true rfl) dX6_gather_7 ?_
      refine n_icmp_ge F 40 dX6_gather_10 (by decide) (by omega) (by omega) (fun c_10 => ?_) (fun c_10 => ?_)
      · refine g_iconst F (nI 1) (by decide) dX6_gather_40 ?_
        refine g_istore_n F 2 [(0, .ref p), (1, .int (nI r)), (2, .int (nI 1))] [1, 2, 0] dX6_gather_41 rfl (by decide) rfl ?_
        have lp_42 : ∀ (n_42 : Nat) (i : Nat) (g : Nat → Int32) (lab : Nat → Nat), (1 ≤ i) → (i ≤ k ∨ i = 1) → (LBk b k g lab) → (∀ x, I x = true → I (lab x) = true ∧ CN dd r I x (lab x) ∧ lab x ≤ x) → (∀ i2 j2, i2 < i → i2 < k → j2 < i2 → dd (b i2) (b j2) ≤ r → lab (b i2) = lab (b j2)) → k + 1 - i < n_42 → GW E X 0 0 [ob p 6 [.ref m, .ref d, .ref w], ob m 5 [.ref a, .int (nI k)], ia E a 60 f, ob d 3 [.ref ro, .ref tb, .ref ka, .int (nI kd)], ia E ka 3600 kn, ia E w 60 g] [(0, .ref p), (1, .int (nI r)), (2, .int (nI i))] 42 [] := by
          intro n_42
          induction n_42 with
          | zero => intro i g lab hi1 hi2 hl hv hp hm_42; exact absurd hm_42 (Nat.not_lt_zero _)
          | succ n_42 ih_42 =>
            intro i g lab hi1 hi2 hl hv hp hm_42
            refine g_iload_n F 2 rfl dX6_gather_42 ?_
            refine g_aload_n F 0 rfl dX6_gather_43 ?_
            refine g_get F 6 0 0 inX6 rfl rfl (by decide) tw_fl_X6_15 rfl dX6_gather_44 ?_
            refine g_rVi F (wr := [ob p 6 [.ref m, .ref d, .ref w], ob d 3 [.ref ro, .ref tb, .ref ka, .int (nI kd)], ia E ka 3600 kn, ia E w 60 g]) [.int (nI i)] (c_X5_size E m a f k ) (gi_V tw_ml_X6_23 tw_im_X5_size tw_se_X5_size tw_in_X5 tw_co_X5_size) 0 rfl (by decide) ⟨rfl, rfl, by decide, by decide, Nat.zero_le _, Nat.zero_le _⟩ 5 0 rfl rfl [1, 2] [0, 3, 4, 5] [0, 4, 5, 1, 2, 3] rfl rfl (by decide) rfl rfl (Nat.le_of_ble_eq_true rfl) dX6_gather_47 ?_
            refine n_icmp_ge F 129 dX6_gather_50 (by decide) (by omega) (by omega) (fun c_50 => ?_) (fun c_50 => ?_)
            · exact R g _ _ dX6_gather_129 (⟨lab, hl, fun x y hx hy hxy => by
      obtain ⟨i1, q1, e1⟩ := (hI x).mp hx
      obtain ⟨i2, q2, e2⟩ := (hI y).mp hy
      subst e1
      subst e2
      rcases Nat.lt_trichotomy i1 i2 with z | z | z
      · exact (hp i2 i1 (by omega) q2 z (by rw [hsy _ _ hy hx]; exact hxy)).symm
      · rw [z]
      · exact hp i1 i2 (by omega) q1 z hxy, hv⟩)
            · refine g_iconst F (nI 0) (by decide) dX6_gather_53 ?_
              refine g_istore_n F 3 [(0, .ref p), (1, .int (nI r)), (2, .int (nI i)), (3, .int (nI 0))] [1, 2, 3, 0] dX6_gather_54 rfl (by decide) rfl ?_
              have lp_55 : ∀ (n_55 : Nat) (j : Nat) (g2 : Nat → Int32) (lab2 : Nat → Nat), (j ≤ i) → (LBk b k g2 lab2) → (∀ x, I x = true → I (lab2 x) = true ∧ CN dd r I x (lab2 x) ∧ lab2 x ≤ x) → (∀ i2 j2, (i2 < i ∨ (i2 = i ∧ j2 < j)) → i2 < k → j2 < i2 → dd (b i2) (b j2) ≤ r → lab2 (b i2) = lab2 (b j2)) → i - j < n_55 → GW E X 0 0 [ob p 6 [.ref m, .ref d, .ref w], ob m 5 [.ref a, .int (nI k)], ia E a 60 f, ob d 3 [.ref ro, .ref tb, .ref ka, .int (nI kd)], ia E ka 3600 kn, ia E w 60 g2] [(0, .ref p), (1, .int (nI r)), (2, .int (nI i)), (3, .int (nI j))] 55 [] := by
                intro n_55
                induction n_55 with
                | zero => intro j g2 lab2 hj hl2 hv2 hp2 hm_55; exact absurd hm_55 (Nat.not_lt_zero _)
                | succ n_55 ih_55 =>
                  intro j g2 lab2 hj hl2 hv2 hp2 hm_55
                  refine g_iload_n F 3 rfl dX6_gather_55 ?_
                  refine g_iload_n F 2 rfl dX6_gather_56 ?_
                  refine n_icmp_ge F 123 dX6_gather_57 (by decide) (by omega) (by omega) (fun c_57 => ?_) (fun c_57 => ?_)
                  · refine g_iinc F (nI (i + 1)) 2 2 [(0, .ref p), (1, .int (nI r)), (2, .int (nI (i + 1))), (3, .int (nI j))] [1, 2, 0, 3] dX6_gather_123 rfl (n_inc i) (by decide) rfl ?_
                    refine g_goto F 42 dX6_gather_126 (by decide) ?_
                    refine g_lv [0, 1, 2] [(0, .ref p), (1, .int (nI r)), (2, .int (nI (i + 1)))] rfl ?_
                    exact ih_42 (i + 1) g2 lab2 (by omega) (by omega) (hl2) (hv2) (fun i2 j2 q1 q2 q3 q4 => by
          rcases Nat.lt_or_ge i2 i with z | z
          · exact hp2 i2 j2 (Or.inl z) q2 q3 q4
          · exact hp2 i2 j2 (Or.inr ⟨by omega, by omega⟩) q2 q3 q4) (by omega)
                  · refine g_aload_n F 0 rfl dX6_gather_60 ?_
                    refine g_get F 6 0 1 inX6 rfl rfl (by decide) tw_fl_X6_19 rfl dX6_gather_61 ?_
                    refine g_aload_n F 0 rfl dX6_gather_64 ?_
                    refine g_get F 6 0 0 inX6 rfl rfl (by decide) tw_fl_X6_15 rfl dX6_gather_65 ?_
                    refine g_iload_n F 2 rfl dX6_gather_68 ?_
                    refine g_rVi F (wr := [ob p 6 [.ref m, .ref d, .ref w], ob d 3 [.ref ro, .ref tb, .ref ka, .int (nI kd)], ia E ka 3600 kn, ia E w 60 g2]) [.ref d] (c_X5_at E m a f k b i (fun i hi => (hb.2.1 i hi).1) (by omega) (by omega)) (gi_V tw_ml_X6_29 tw_im_X5_at tw_se_X5_at tw_in_X5 tw_co_X5_at) 1 rfl (by decide) ⟨rfl, rfl, by decide, by decide, Nat.zero_le _, Nat.zero_le _⟩ 5 0 rfl rfl [1, 2] [0, 3, 4, 5] [0, 4, 5, 1, 2, 3] rfl rfl (by decide) rfl rfl (Nat.le_of_ble_eq_true rfl) dX6_gather_69 ?_
                    refine g_aload_n F 0 rfl dX6_gather_72 ?_
                    refine g_get F 6 0 0 inX6 rfl rfl (by decide) tw_fl_X6_15 rfl dX6_gather_73 ?_
                    refine g_iload_n F 3 rfl dX6_gather_76 ?_
                    refine g_rVi F (wr := [ob p 6 [.ref m, .ref d, .ref w], ob d 3 [.ref ro, .ref tb, .ref ka, .int (nI kd)], ia E ka 3600 kn, ia E w 60 g2]) [.int (nI (b i)), .ref d] (c_X5_at E m a f k b j (fun i hi => (hb.2.1 i hi).1) (by omega) (by omega)) (gi_V tw_ml_X6_29 tw_im_X5_at tw_se_X5_at tw_in_X5 tw_co_X5_at) 1 rfl (by decide) ⟨rfl, rfl, by decide, by decide, Nat.zero_le _, Nat.zero_le _⟩ 5 0 rfl rfl [1, 2] [0, 3, 4, 5] [0, 4, 5, 1, 2, 3] rfl rfl (by decide) rfl rfl (Nat.le_of_ble_eq_true rfl) dX6_gather_77 ?_
                    refine g_rVi F (wr := [ob p 6 [.ref m, .ref d, .ref w], ob m 5 [.ref a, .int (nI k)], ia E a 60 f, ia E w 60 g2]) [] (c_X3_at E d ro tb ka kn kd dd (b i) (b j) ((hb.2.1 i (by omega)).2) ((hb.2.1 j (by omega)).2) ((hd i j (by omega) (by omega)).1)) (gi_V tw_ml_X6_33 tw_im_X3_at tw_se_X3_at tw_in_X3 tw_co_X3_at) 2 rfl (by decide) ⟨rfl, rfl, by decide, by decide, Nat.zero_le _, Nat.zero_le _⟩ 3 0 rfl rfl [3, 4] [0, 1, 2, 5] [0, 1, 2, 4, 5, 3] rfl rfl (by decide) rfl rfl (Nat.le_of_ble_eq_true rfl) dX6_gather_80 ?_
                    refine g_iload_n F 1 rfl dX6_gather_83 ?_
                    refine n_icmp_gt F 117 dX6_gather_84 (by decide) (by have := (hd i j (by omega) (by omega)).2; omega) (by omega) (fun c_84 => ?_) (fun c_84 => ?_)
                    · refine g_iinc F (nI (j + 1)) 3 3 [(0, .ref p), (1, .int (nI r)), (2, .int (nI i)), (3, .int (nI (j + 1)))] [1, 2, 3, 0] dX6_gather_117 rfl (n_inc j) (by decide) rfl ?_
                      refine g_goto F 55 dX6_gather_120 (by decide) ?_
                      exact ih_55 (j + 1) g2 lab2 (by omega) (hl2) (hv2) (fun i2 j2 q1 q2 q3 q4 => by
            by_cases z : i2 = i ∧ j2 = j
            · rw [z.1, z.2] at q4; omega
            · exact hp2 i2 j2 (by omega) q2 q3 q4) (by omega)
                    · refine g_aload_n F 0 rfl dX6_gather_87 ?_
                      refine g_aload_n F 0 rfl dX6_gather_88 ?_
                      refine g_get F 6 0 2 inX6 rfl rfl (by decide) tw_fl_X6_9 rfl dX6_gather_89 ?_
                      refine g_aload_n F 0 rfl dX6_gather_92 ?_
                      refine g_get F 6 0 0 inX6 rfl rfl (by decide) tw_fl_X6_15 rfl dX6_gather_93 ?_
                      refine g_iload_n F 2 rfl dX6_gather_96 ?_
                      refine g_rVi F (wr := [ob p 6 [.ref m, .ref d, .ref w], ob d 3 [.ref ro, .ref tb, .ref ka, .int (nI kd)], ia E ka 3600 kn, ia E w 60 g2]) [.ref w, .ref p] (c_X5_at E m a f k b i (fun i hi => (hb.2.1 i hi).1) (by omega) (by omega)) (gi_V tw_ml_X6_29 tw_im_X5_at tw_se_X5_at tw_in_X5 tw_co_X5_at) 1 rfl (by decide) ⟨rfl, rfl, by decide, by decide, Nat.zero_le _, Nat.zero_le _⟩ 5 0 rfl rfl [1, 2] [0, 3, 4, 5] [0, 4, 5, 1, 2, 3] rfl rfl (by decide) rfl rfl (Nat.le_of_ble_eq_true rfl) dX6_gather_97 ?_
                      refine g_iald F 5 rfl ((hb.2.1 i (by omega)).2) (by decide) dX6_gather_100 ?_
                      refine g_top (nI (lab2 (b i))) ((hl2 i (by omega)).1) ?_
                      refine g_aload_n F 0 rfl dX6_gather_101 ?_
                      refine g_get F 6 0 2 inX6 rfl rfl (by decide) tw_fl_X6_9 rfl dX6_gather_102 ?_
                      refine g_aload_n F 0 rfl dX6_gather_105 ?_
                      refine g_get F 6 0 0 inX6 rfl rfl (by decide) tw_fl_X6_15 rfl dX6_gather_106 ?_
                      refine g_iload_n F 3 rfl dX6_gather_109 ?_
                      refine g_rVi F (wr := [ob p 6 [.ref m, .ref d, .ref w], ob d 3 [.ref ro, .ref tb, .ref ka, .int (nI kd)], ia E ka 3600 kn, ia E w 60 g2]) [.ref w, .int (nI (lab2 (b i))), .ref p] (c_X5_at E m a f k b j (fun i hi => (hb.2.1 i hi).1) (by omega) (by omega)) (gi_V tw_ml_X6_29 tw_im_X5_at tw_se_X5_at tw_in_X5 tw_co_X5_at) 1 rfl (by decide) ⟨rfl, rfl, by decide, by decide, Nat.zero_le _, Nat.zero_le _⟩ 5 0 rfl rfl [1, 2] [0, 3, 4, 5] [0, 4, 5, 1, 2, 3] rfl rfl (by decide) rfl rfl (Nat.le_of_ble_eq_true rfl) dX6_gather_110 ?_
                      refine g_iald F 5 rfl ((hb.2.1 j (by omega)).2) (by decide) dX6_gather_113 ?_
                      refine g_top (nI (lab2 (b j))) ((hl2 j (by omega)).1) ?_
                      refine g_cVv F (wr := [ob d 3 [.ref ro, .ref tb, .ref ka, .int (nI kd)], ia E ka 3600 kn]) [] (c_X6_join E p w d g2 m a f k b lab2 (lab2 (b i)) (lab2 (b j)) (hb) (hl2) ((hl2 i (by omega)).2) ((hl2 j (by omega)).2)) (gi_V tw_ml_X6_38 tw_im_X6_join tw_se_X6_join tw_in_X6 tw_co_X6_join) 2 rfl (by decide) ⟨rfl, rfl, by decide, by decide, Nat.zero_le _, Nat.zero_le _⟩ 6 0 rfl rfl [0, 1, 2, 5] [3, 4] [2, 3, 4, 0, 1, 5] (fun u => [ob p 6 [.ref m, .ref d, .ref w], ob m 5 [.ref a, .int (nI k)], ia E a 60 f, ob d 3 [.ref ro, .ref tb, .ref ka, .int (nI kd)], ia E ka 3600 kn, ia E w 60 u]) rfl rfl (by decide) (fun _ => rfl) rfl (Nat.le_of_ble_eq_true rfl) dX6_gather_114 (fun u hu_114 => ?_)
                      revert hu_114; revert u; intro lo2_114 hu_114
                      refine g_iinc F (nI (j + 1)) 3 3 [(0, .ref p), (1, .int (nI r)), (2, .int (nI i)), (3, .int (nI (j + 1)))] [1, 2, 3, 0] dX6_gather_117 rfl (n_inc j) (by decide) rfl ?_
                      refine g_goto F 55 dX6_gather_120 (by decide) ?_
                      exact ih_55 (j + 1) lo2_114 (jn lab2 (lab2 (b i)) (lab2 (b j))) (by omega) (hu_114) (jn_ok hv2 (hI.at (by omega)) (hI.at (by omega)) c_84) (fun i2 j2 q1 q2 q3 q4 => by
            by_cases z : i2 = i ∧ j2 = j
            · rw [z.1, z.2]; exact jn_both lab2 _ _
            · exact jn_eq (hp2 i2 j2 (by omega) q2 q3 q4)) (by omega)
              exact lp_55 _ 0 g lab (by omega) (hl) (hv) (fun i2 j2 q1 q2 q3 => hp i2 j2 (by omega) q2 q3) (Nat.lt_succ_self _)
        exact lp_42 _ 1 g (fun t => t) (by omega) (by omega) (fun j hj => ⟨g1 j (by omega), (hb.2.1 j hj).2⟩) (fun x hx => ⟨hx, CN.rf x, Nat.le_refl x⟩) (fun i2 j2 q1 q2 q3 => absurd q3 (by omega)) (Nat.lt_succ_self _)
      · refine g_aload_n F 0 rfl dX6_gather_13 ?_
        refine g_get F 6 0 2 inX6 rfl rfl (by decide) tw_fl_X6_9 rfl dX6_gather_14 ?_
        refine g_aload_n F 0 rfl dX6_gather_17 ?_
        refine g_get F 6 0 0 inX6 rfl rfl (by decide) tw_fl_X6_15 rfl dX6_gather_18 ?_
        refine g_iload_n F 2 rfl dX6_gather_21 ?_
        refine g_rVi F (wr := [ob p 6 [.ref m, .ref d, .ref w], ob d 3 [.ref ro, .ref tb, .ref ka, .int (nI kd)], ia E ka 3600 kn, ia E w 60 g]) [.ref w] (c_X5_at E m a f k b i (fun i hi => (hb.2.1 i hi).1) (by omega) (by omega)) (gi_V tw_ml_X6_29 tw_im_X5_at tw_se_X5_at tw_in_X5 tw_co_X5_at) 1 rfl (by decide) ⟨rfl, rfl, by decide, by decide, Nat.zero_le _, Nat.zero_le _⟩ 5 0 rfl rfl [1, 2] [0, 3, 4, 5] [0, 4, 5, 1, 2, 3] rfl rfl (by decide) rfl rfl (Nat.le_of_ble_eq_true rfl) dX6_gather_22 ?_
        refine g_aload_n F 0 rfl dX6_gather_25 ?_
        refine g_get F 6 0 0 inX6 rfl rfl (by decide) tw_fl_X6_15 rfl dX6_gather_26 ?_
        refine g_iload_n F 2 rfl dX6_gather_29 ?_
        refine g_rVi F (wr := [ob p 6 [.ref m, .ref d, .ref w], ob d 3 [.ref ro, .ref tb, .ref ka, .int (nI kd)], ia E ka 3600 kn, ia E w 60 g]) [.int (nI (b i)), .ref w] (c_X5_at E m a f k b i (fun i hi => (hb.2.1 i hi).1) (by omega) (by omega)) (gi_V tw_ml_X6_29 tw_im_X5_at tw_se_X5_at tw_in_X5 tw_co_X5_at) 1 rfl (by decide) ⟨rfl, rfl, by decide, by decide, Nat.zero_le _, Nat.zero_le _⟩ 5 0 rfl rfl [1, 2] [0, 3, 4, 5] [0, 4, 5, 1, 2, 3] rfl rfl (by decide) rfl rfl (Nat.le_of_ble_eq_true rfl) dX6_gather_30 ?_
        refine g_iast F 5 [ob p 6 [.ref m, .ref d, .ref w], ob m 5 [.ref a, .int (nI k)], ia E a 60 f, ob d 3 [.ref ro, .ref tb, .ref ka, .int (nI kd)], ia E ka 3600 kn, ia E w 60 (upd g (b i) (nI (b i)))] rfl ((hb.2.1 i (by omega)).2) (by decide) rfl dX6_gather_33 ?_
        refine g_iinc F (nI (i + 1)) 2 2 [(0, .ref p), (1, .int (nI r)), (2, .int (nI (i + 1)))] [1, 2, 0] dX6_gather_34 rfl (n_inc i) (by decide) rfl ?_
        refine g_goto F 2 dX6_gather_37 (by decide) ?_
        exact ih_2 (i + 1) (upd g (b i) (nI (b i))) (by omega) (lt_s (fun j hj => (pk_un (fun e => by have := mb_inj hb (by omega) (by omega) e; omega)).trans (g1 j hj)) pk_us) (by omega)
  exact lp_2 _ 0 lo (by omega) (fun j h => absurd h (Nat.not_lt_zero j)) (Nat.lt_succ_self _)

set_option maxHeartbeats 4000000 in
set_option maxRecDepth 100000 in
theorem c_X6_howMany (E : Ev) (p : Nat) (w : Nat) (d : Nat) (lo : Nat → Int32) (m : Nat) (a : Nat) (f : Nat → Int32) (k : Nat) (b : Nat → Nat) (lab : Nat → Nat) (hb : MB f k b) (hl : LBk b k lo lab) : RDi E yX6_howMany (wq yX6_howMany cX6_howMany 3 (some .int)) (rmk 1 21) [.ref p] [ob p 6 [.ref m, .ref d, .ref w], ob m 5 [.ref a, .int (nI k)], ia E a 60 f, ia E w 60 lo] (nI (sumB (fun t => if lab t = t then 1 else 0) b k)) := by
  refine CTi.of (by decide) (Nat.le_of_ble_eq_true rfl) (fun X F R => ?_)
  refine g_lv [0] [(0, .ref p)] rfl ?_
  have hk := hb.1
  refine g_iconst F (nI 0) (by decide) dX6_howMany_0 ?_
  refine g_istore_n F 1 [(0, .ref p), (1, .int (nI 0))] [1, 0] dX6_howMany_1 rfl (by decide) rfl ?_
  refine g_iconst F (nI 0) (by decide) dX6_howMany_2 ?_
  refine g_istore_n F 2 [(0, .ref p), (1, .int (nI 0)), (2, .int (nI 0))] [1, 2, 0] dX6_howMany_3 rfl (by decide) rfl ?_
  have lp_4 : ∀ (n_4 : Nat) (i : Nat), (i ≤ k) → k - i < n_4 → GW E X 0 0 [ob p 6 [.ref m, .ref d, .ref w], ob m 5 [.ref a, .int (nI k)], ia E a 60 f, ia E w 60 lo] [(0, .ref p), (1, .int (nI (sumB (fun t => if lab t = t then 1 else 0) b i))), (2, .int (nI i))] 4 [] := by
    intro n_4
    induction n_4 with
    | zero => intro i hi hm_4; exact absurd hm_4 (Nat.not_lt_zero _)
    | succ n_4 ih_4 =>
      intro i hi hm_4
      refine g_iload_n F 2 rfl dX6_howMany_4 ?_
      refine g_aload_n F 0 rfl dX6_howMany_5 ?_
      refine g_get F 6 0 0 inX6 rfl rfl (by decide) tw_fl_X6_15 rfl dX6_howMany_6 ?_
      refine g_rVi F (wr := [ob p 6 [.ref m, .ref d, .ref w], ia E w 60 lo]) [.int (nI i)] (c_X5_size E m a f k ) (gi_V tw_ml_X6_23 tw_im_X5_size tw_se_X5_size tw_in_X5 tw_co_X5_size) 0 rfl (by decide) ⟨rfl, rfl, by decide, by decide, Nat.zero_le _, Nat.zero_le _⟩ 5 0 rfl rfl [1, 2] [0, 3] [0, 2, 3, 1] rfl rfl (by decide) rfl rfl (Nat.le_of_ble_eq_true rfl) dX6_howMany_9 ?_
      refine n_icmp_ge F 48 dX6_howMany_12 (by decide) (by omega) (by omega) (fun c_12 => ?_) (fun c_12 => ?_)
      · refine g_iload_n F 1 rfl dX6_howMany_48 ?_
        exact R _ (()) _ _ dX6_howMany_49 (by rw [show i = k by omega])
      · refine g_aload_n F 0 rfl dX6_howMany_15 ?_
        refine g_get F 6 0 2 inX6 rfl rfl (by decide) tw_fl_X6_9 rfl dX6_howMany_16 ?_
        refine g_aload_n F 0 rfl dX6_howMany_19 ?_
        refine g_get F 6 0 0 inX6 rfl rfl (by decide) tw_fl_X6_15 rfl dX6_howMany_20 ?_
        refine g_iload_n F 2 rfl dX6_howMany_23 ?_
        refine g_rVi F (wr := [ob p 6 [.ref m, .ref d, .ref w], ia E w 60 lo]) [.ref w] (c_X5_at E m a f k b i (fun i hi => (hb.2.1 i hi).1) (by omega) (by omega)) (gi_V tw_ml_X6_29 tw_im_X5_at tw_se_X5_at tw_in_X5 tw_co_X5_at) 1 rfl (by decide) ⟨rfl, rfl, by decide, by decide, Nat.zero_le _, Nat.zero_le _⟩ 5 0 rfl rfl [1, 2] [0, 3] [0, 2, 3, 1] rfl rfl (by decide) rfl rfl (Nat.le_of_ble_eq_true rfl) dX6_howMany_24 ?_
        refine g_iald F 3 rfl ((hb.2.1 i (by omega)).2) (by decide) dX6_howMany_27 ?_
        refine g_top (nI (lab (b i))) ((hl i (by omega)).1) ?_
        refine g_aload_n F 0 rfl dX6_howMany_28 ?_
        refine g_get F 6 0 0 inX6 rfl rfl (by decide) tw_fl_X6_15 rfl dX6_howMany_29 ?_
        refine g_iload_n F 2 rfl dX6_howMany_32 ?_
        refine g_rVi F (wr := [ob p 6 [.ref m, .ref d, .ref w], ia E w 60 lo]) [.int (nI (lab (b i)))] (c_X5_at E m a f k b i (fun i hi => (hb.2.1 i hi).1) (by omega) (by omega)) (gi_V tw_ml_X6_29 tw_im_X5_at tw_se_X5_at tw_in_X5 tw_co_X5_at) 1 rfl (by decide) ⟨rfl, rfl, by decide, by decide, Nat.zero_le _, Nat.zero_le _⟩ 5 0 rfl rfl [1, 2] [0, 3] [0, 2, 3, 1] rfl rfl (by decide) rfl rfl (Nat.le_of_ble_eq_true rfl) dX6_howMany_33 ?_
        refine n_icmp_ne F 42 dX6_howMany_36 (by decide) (by have := (hl i (by omega)).2; omega) (by have := (hb.2.1 i (by omega)).2; omega) (fun c_36 => ?_) (fun c_36 => ?_)
        · refine g_lv [0, 1, 2] [(0, .ref p), (1, .int (nI (sumB (fun t => if lab t = t then 1 else 0) b (i + 1)))), (2, .int (nI i))] (by rw [show sumB (fun t => if lab t = t then 1 else 0) b (i + 1) = sumB (fun t => if lab t = t then 1 else 0) b i from by simp [sumB, c_36]]; rfl) ?_
          refine g_iinc F (nI (i + 1)) 2 2 [(0, .ref p), (1, .int (nI (sumB (fun t => if lab t = t then 1 else 0) b (i + 1)))), (2, .int (nI (i + 1)))] [1, 2, 0] dX6_howMany_42 rfl (n_inc i) (by decide) rfl ?_
          refine g_goto F 4 dX6_howMany_45 (by decide) ?_
          exact ih_4 (i + 1) (by omega) (by omega)
        · refine g_iinc F (nI ((sumB (fun t => if lab t = t then 1 else 0) b i) + 1)) 1 1 [(0, .ref p), (1, .int (nI ((sumB (fun t => if lab t = t then 1 else 0) b i) + 1))), (2, .int (nI i))] [1, 0, 2] dX6_howMany_39 rfl (n_inc (sumB (fun t => if lab t = t then 1 else 0) b i)) (by decide) rfl ?_
          refine g_lv [0, 1, 2] [(0, .ref p), (1, .int (nI (sumB (fun t => if lab t = t then 1 else 0) b (i + 1)))), (2, .int (nI i))] (by rw [show sumB (fun t => if lab t = t then 1 else 0) b (i + 1) = sumB (fun t => if lab t = t then 1 else 0) b i + 1 from by simp [sumB, c_36]]; rfl) ?_
          refine g_iinc F (nI (i + 1)) 2 2 [(0, .ref p), (1, .int (nI (sumB (fun t => if lab t = t then 1 else 0) b (i + 1)))), (2, .int (nI (i + 1)))] [1, 2, 0] dX6_howMany_42 rfl (n_inc i) (by decide) rfl ?_
          refine g_goto F 4 dX6_howMany_45 (by decide) ?_
          exact ih_4 (i + 1) (by omega) (by omega)
  exact lp_4 _ 0 (by omega) (Nat.lt_succ_self _)
