theorem pk_le2 {dd : Nat → Nat → Nat} {a b : Nat} (h : dd a b ≤ 100000) (ha : a < 60) (hb : b < 60) : pkN dd a b < 360003600 := by
  unfold pkN
  rcases nmin_cases a b with ⟨e1, e2, -⟩ | ⟨e1, e2, -⟩ <;> rw [e1, e2] <;> omega
theorem pk_comm {dd : Nat → Nat → Nat} {a b : Nat} (h : dd a b = dd b a) : pkN dd a b = pkN dd b a := by
  unfold pkN
  rw [h]
  rcases nmin_cases a b with ⟨e1, e2, q⟩ | ⟨e1, e2, q⟩ <;> rcases nmin_cases b a with ⟨f1, f2, p⟩ | ⟨f1, f2, p⟩ <;> rw [e1, e2, f1, f2] <;> omega
theorem pk_inj {dd : Nat → Nat → Nat} {a b c d : Nat} (ha : a < 60) (hb : b < 60) (hc : c < 60) (hd : d < 60) (h : pkN dd a b = pkN dd c d) : (a = c ∧ b = d) ∨ (a = d ∧ b = c) := by
  unfold pkN at h
  rcases nmin_cases a b with ⟨e1, e2, q⟩ | ⟨e1, e2, q⟩ <;> rcases nmin_cases c d with ⟨f1, f2, p⟩ | ⟨f1, f2, p⟩ <;> rw [e1, e2, f1, f2] at h <;> omega
/-- connected by pairs of keys below x -/
def CK (dd : Nat → Nat → Nat) (I : Nat → Bool) (x a b : Nat) : Prop := ∀ P : Nat → Prop, P a → (∀ u v, I u = true → I v = true → u ≠ v → P u → pkN dd u v < x → P v) → P b
/-- the key of a pair of the chain: its two aren't connected by lesser ones -/
def PE (dd : Nat → Nat → Nat) (I : Nat → Bool) (x : Nat) : Prop := ∃ a b, I a = true ∧ I b = true ∧ a < b ∧ x = pkN dd a b ∧ ¬ CK dd I x a b
def cH (nu : Nat → Nat) : Nat → Nat
  | 0 => 0
  | i + 1 => cH nu i + (if nu i = 2147483647 then 1 else 0)
theorem cH_eq {nu nv : Nat → Nat} : ∀ k, (∀ i, i < k → (nu i = 2147483647 ↔ nv i = 2147483647)) → cH nu k = cH nv k := by
  intro k
  induction k with
  | zero => intro _; rfl
  | succ k ih =>
    intro h
    have h1 := ih (fun i hi => h i (by omega))
    have h2 := h k (by omega)
    show cH nu k + _ = cH nv k + _
    rw [h1]
    by_cases c : nu k = 2147483647
    · rw [if_pos c, if_pos (h2.mp c)]
    · rw [if_neg c, if_neg (fun z => c (h2.mpr z))]
def mrk (nu : Nat → Nat) (w : Nat) : Nat → Nat := fun i => if i = w then 2147483647 else nu i
theorem cH_mrk {nu : Nat → Nat} {w : Nat} (hw : nu w ≠ 2147483647) : ∀ k, cH (mrk nu w) k = cH nu k + (if w < k then 1 else 0) := by
  intro k
  induction k with
  | zero => rfl
  | succ k ih =>
    show cH (mrk nu w) k + _ = cH nu k + _ + _
    rw [ih]
    unfold mrk
    by_cases c : k = w
    · subst c
      rw [if_neg (Nat.lt_irrefl k), if_pos rfl, if_pos rfl, if_neg hw, if_pos (by omega)]
    · rw [if_neg c]
      have e2 : (w < k + 1) = (w < k) := propext (by omega)
      simp only [e2]
      omega
theorem cH_full {nu : Nat → Nat} : ∀ k, (∀ i, i < k → nu i = 2147483647) → cH nu k = k := by
  intro k
  induction k with
  | zero => intro _; rfl
  | succ k ih =>
    intro h
    show cH nu k + _ = _
    rw [ih (fun i hi => h i (by omega)), if_pos (h k (by omega))]
theorem cH_loose {nu : Nat → Nat} {k : Nat} (h : cH nu k < k) : ∃ i, i < k ∧ nu i ≠ 2147483647 := by
  apply Classical.byContradiction
  intro z
  have : cH nu k = k := cH_full k (fun i hi => Classical.byContradiction (fun q => z ⟨i, hi, q⟩))
  omega
def rch (dd : Nat → Nat → Nat) (b nu : Nat → Nat) (w : Nat) : Nat → Nat := fun i => if nu i = 2147483647 then 2147483647 else Nat.min (nu i) (pkN dd (b w) (b i))
def PRI (dd : Nat → Nat → Nat) (I : Nat → Bool) (b : Nat → Nat) (k step nw : Nat) (nu ta : Nat → Nat) : Prop :=
  nw < k ∧ step ≤ k ∧ 1 ≤ step ∧ nu nw ≠ 2147483647 ∧ cH nu k + 1 = step ∧ (∀ i, i < k → nu i ≤ 2147483647) ∧
  (∀ i, i < k → nu i ≠ 2147483647 → i ≠ nw → (∀ j, j < k → nu j = 2147483647 → nu i ≤ pkN dd (b j) (b i)) ∧ (nu i = 2147483646 ∨ ∃ j, j < k ∧ nu j = 2147483647 ∧ nu i = pkN dd (b j) (b i))) ∧
  (∀ i, i + 1 < step → PE dd I (ta i) ∧ ∃ x y, x < k ∧ y < k ∧ (nu x = 2147483647 ∨ x = nw) ∧ (nu y = 2147483647 ∨ y = nw) ∧ ta i = pkN dd (b x) (b y))
theorem pri_0 {dd : Nat → Nat → Nat} {I : Nat → Bool} {b : Nat → Nat} {k : Nat} {ta : Nat → Nat} (hk : 0 < k) : PRI dd I b k 1 0 (fun _ => 2147483646) ta := by
  refine ⟨hk, hk, Nat.le_refl _, show 2147483646 ≠ 2147483647 by decide, ?_, fun _ _ => show 2147483646 ≤ 2147483647 by decide, fun i _ _ _ => ⟨fun j _ h => absurd h (show ¬ 2147483646 = 2147483647 by decide), Or.inl rfl⟩, fun i h => absurd h (by omega)⟩
  have : ∀ k, cH (fun _ => 2147483646) k = 0 := by
    intro k
    induction k with
    | zero => rfl
    | succ k ih => show cH _ k + _ = 0; rw [ih]; rfl
  rw [this]
theorem rch_hg {dd : Nat → Nat → Nat} {b nu : Nat → Nat} {w i : Nat} (hp : pkN dd (b w) (b i) < 360003600) : rch dd b nu w i = 2147483647 ↔ nu i = 2147483647 := by
  unfold rch
  by_cases c : nu i = 2147483647
  · rw [if_pos c]; exact ⟨fun _ => c, fun _ => rfl⟩
  · rw [if_neg c]
    have : Nat.min (nu i) (pkN dd (b w) (b i)) ≤ pkN dd (b w) (b i) := Nat.min_le_right _ _
    exact ⟨fun z => by omega, fun z => absurd z c⟩
/-- one step of the chain's growth -/
theorem pri_step {dd : Nat → Nat → Nat} {I : Nat → Bool} {f : Nat → Int32} {b : Nat → Nat} {k step nw s : Nat} {nu ta : Nat → Nat} (hb : MB f k b) (hI : BK b k I) (hd : ∀ i j, i < k → j < k → dd (b i) (b j) ≤ 100000) (hsy : ∀ x y, I x = true → I y = true → dd x y = dd y x) (h : PRI dd I b k step nw nu ta) (hlt : step < k) (hs : s < k) (hmin : ∀ j, j < k → rch dd b (mrk nu nw) nw s ≤ rch dd b (mrk nu nw) nw j) :
    rch dd b (mrk nu nw) nw s < 360003600 ∧ (∀ i, i + 1 < step → ta i ≠ rch dd b (mrk nu nw) nw s) ∧ ∀ ta2 : Nat → Nat, (∀ q, (∃ i, i < step ∧ ta2 i = q) ↔ (q = rch dd b (mrk nu nw) nw s ∨ ∃ i, i < step - 1 ∧ ta i = q)) → PRI dd I b k (step + 1) s (rch dd b (mrk nu nw) nw) ta2 := by
  obtain ⟨h1, h2, h3, h4, h5, h6, h7, h8⟩ := h
  have hpk : ∀ i j, i < k → j < k → pkN dd (b i) (b j) < 360003600 := fun i j hi hj => pk_le2 (hd i j hi hj) (hb.2.1 i hi).2 (hb.2.1 j hj).2
  have m1 : ∀ i, mrk nu nw i = 2147483647 ↔ (nu i = 2147483647 ∨ i = nw) := by
    intro i
    unfold mrk
    by_cases c : i = nw
    · rw [if_pos c]; exact ⟨fun _ => Or.inr c, fun _ => rfl⟩
    · rw [if_neg c]; exact ⟨Or.inl, fun z => z.resolve_right c⟩
  have hg : ∀ i, i < k → (rch dd b (mrk nu nw) nw i = 2147483647 ↔ (nu i = 2147483647 ∨ i = nw)) := fun i hi => (rch_hg (hpk nw i h1 hi)).trans (m1 i)
  have hc1 : cH (rch dd b (mrk nu nw) nw) k = step := by
    rw [cH_eq k (fun i hi => rch_hg (hpk nw i h1 hi)), cH_mrk h4, if_pos h1]
    exact h5
  -- values of the loose ones
  have hv : ∀ i, i < k → ¬ (nu i = 2147483647 ∨ i = nw) → rch dd b (mrk nu nw) nw i = Nat.min (nu i) (pkN dd (b nw) (b i)) := by
    intro i hi z
    unfold rch
    rw [if_neg (fun q => z ((m1 i).mp q))]
    unfold mrk
    rw [if_neg (fun q => z (Or.inr q))]
  have hle : ∀ i, i < k → ¬ (nu i = 2147483647 ∨ i = nw) → ∀ j, j < k → (nu j = 2147483647 ∨ j = nw) → rch dd b (mrk nu nw) nw i ≤ pkN dd (b j) (b i) := by
    intro i hi z j hj hjT
    rw [hv i hi z]
    rcases hjT with q | q
    · exact Nat.le_trans (Nat.min_le_left _ _) ((h7 i hi (fun y => z (Or.inl y)) (fun y => z (Or.inr y))).1 j hj q)
    · rw [q]; exact Nat.min_le_right _ _
  have hex : ∀ i, i < k → ¬ (nu i = 2147483647 ∨ i = nw) → ∃ j, j < k ∧ (nu j = 2147483647 ∨ j = nw) ∧ rch dd b (mrk nu nw) nw i = pkN dd (b j) (b i) := by
    intro i hi z
    rw [hv i hi z]
    have hp := hpk nw i h1 hi
    rcases nmin_cases (nu i) (pkN dd (b nw) (b i)) with ⟨e1, -, e3⟩ | ⟨e1, -, e3⟩
    · rcases (h7 i hi (fun y => z (Or.inl y)) (fun y => z (Or.inr y))).2 with q | ⟨j, q1, q2, q3⟩
      · omega
      · exact ⟨j, q1, Or.inl q2, by rw [e1, q3]⟩
    · exact ⟨nw, h1, Or.inr rfl, e1⟩
  obtain ⟨l, hl, hll⟩ := cH_loose (nu := rch dd b (mrk nu nw) nw) (k := k) (by omega)
  have hlT : ¬ (nu l = 2147483647 ∨ l = nw) := fun q => hll ((hg l hl).mpr q)
  have hs1 : rch dd b (mrk nu nw) nw s < 360003600 := by
    have a1 := hmin l hl
    have a2 := hle l hl hlT nw h1 (Or.inr rfl)
    have a3 := hpk nw l h1 hl
    omega
  have hsT : ¬ (nu s = 2147483647 ∨ s = nw) := fun q => by
    have := (hg s hs).mpr q
    omega
  obtain ⟨j0, hj0, hj0T, e0⟩ := hex s hs hsT
  have hne : b j0 ≠ b s := fun e => hsT (by rw [← mb_inj hb hj0 hs e]; exact hj0T)
  have hpe : PE dd I (rch dd b (mrk nu nw) nw s) := by
    have cut : ¬ CK dd I (rch dd b (mrk nu nw) nw s) (b j0) (b s) := by
      intro z
      have q := z (fun t => ∃ i, i < k ∧ (nu i = 2147483647 ∨ i = nw) ∧ b i = t) ⟨j0, hj0, hj0T, rfl⟩ (by
        intro u v hu hv huv hp hlt2
        obtain ⟨i, hi, hiT, rfl⟩ := hp
        obtain ⟨j, hj, rfl⟩ := (hI v).mp hv
        by_cases c : nu j = 2147483647 ∨ j = nw
        · exact ⟨j, hj, c, rfl⟩
        · have b1 := hle j hj c i hi hiT
          have b2 := hmin j hj
          omega)
      obtain ⟨i, hi, hiT, e⟩ := q
      exact hsT (by rw [← mb_inj hb hi hs e]; exact hiT)
    rcases Nat.lt_or_gt_of_ne hne with q | q
    · exact ⟨b j0, b s, hI.at hj0, hI.at hs, q, e0, cut⟩
    · refine ⟨b s, b j0, hI.at hs, hI.at hj0, q, e0.trans (pk_comm (hsy _ _ (hI.at hj0) (hI.at hs))), fun z => cut ?_⟩
      -- the relation is symmetric
      exact z (fun t => CK dd I (rch dd b (mrk nu nw) nw s) t (b s)) (fun P h0 _ => h0) (fun u v hu hv huv hp hlt2 P h0 hst => hp P (hst v u hv hu (Ne.symm huv) h0 (by rw [pk_comm (hsy v u hv hu)]; exact hlt2)) hst)
  refine ⟨hs1, fun i hi e => ?_, fun ta2 hta => ⟨hs, by omega, by omega, fun z => by omega, by omega, fun i hi => ?_, fun i hi hi2 hi3 => ?_, fun i hi => ?_⟩⟩
  · obtain ⟨-, x, y, hx, hy, hxT, hyT, e2⟩ := h8 i hi
    rw [e, e0] at e2
    rcases pk_inj (hb.2.1 _ hj0).2 (hb.2.1 _ hs).2 (hb.2.1 _ hx).2 (hb.2.1 _ hy).2 e2 with ⟨-, q⟩ | ⟨-, q⟩
    · exact hsT (by rw [mb_inj hb hs hy q]; exact hyT)
    · exact hsT (by rw [mb_inj hb hs hx q]; exact hxT)
  · by_cases c : nu i = 2147483647 ∨ i = nw
    · rw [(hg i hi).mpr c]; exact Nat.le_refl _
    · have a2 := hle i hi c nw h1 (Or.inr rfl)
      have a3 := hpk nw i h1 hi
      omega
  · have c : ¬ (nu i = 2147483647 ∨ i = nw) := fun q => hi2 ((hg i hi).mpr q)
    refine ⟨fun j hj hjT => hle i hi c j hj ((hg j hj).mp hjT), Or.inr ?_⟩
    obtain ⟨j, q1, q2, q3⟩ := hex i hi c
    exact ⟨j, q1, (hg j q1).mpr q2, q3⟩
  · rcases (hta (ta2 i)).mp ⟨i, by omega, rfl⟩ with q | ⟨j, hj, q⟩
    · rw [q]
      exact ⟨hpe, j0, s, hj0, hs, Or.inl ((hg j0 hj0).mpr hj0T), Or.inr rfl, e0⟩
    · rw [← q]
      obtain ⟨a1, x, y, hx, hy, hxT, hyT, e2⟩ := h8 j (by omega)
      exact ⟨a1, x, y, hx, hy, Or.inl ((hg x hx).mpr hxT), Or.inl ((hg y hy).mpr hyT), e2⟩

set_option maxHeartbeats 4000000 in
set_option maxRecDepth 100000 in
theorem c_X2_leastLoose (E : Ev) (c : Nat) (t : Nat) (w : Nat) (nl : Nat → Int32) (m : Nat) (a : Nat) (f : Nat → Int32) (k : Nat) (d : Nat) (b : Nat → Nat) (nu : Nat → Nat) (hb : MB f k b) (hk0 : 1 ≤ k) (hn : ∀ i, i < k → nl i = nI (nu i) ∧ nu i ≤ 2147483647) : CTi E yX2_leastLoose (wq yX2_leastLoose cX2_leastLoose 3 (some .int)) (rmk 1 20) [.ref c] [ob c 2 [.ref m, .ref d, .ref t, .ref w], ob m 5 [.ref a, .int (nI k)], ia E a 60 f, ia E w 60 nl] (fun (r : Int32) (u : Nat) => r = nI u ∧ u < k ∧ ∀ j, j < k → nu u ≤ nu j) (fun (u : Nat) => [ob c 2 [.ref m, .ref d, .ref t, .ref w], ob m 5 [.ref a, .int (nI k)], ia E a 60 f, ia E w 60 nl]) := by
  refine CTi.of (by decide) (Nat.le_of_ble_eq_true rfl) (fun X F R => ?_)
  refine g_lv [0] [(0, .ref c)] rfl ?_
  have hk := hb.1
  refine g_iconst F (nI 0) (by decide) dX2_leastLoose_0 ?_
  refine g_istore_n F 1 [(0, .ref c), (1, .int (nI 0))] [1, 0] dX2_leastLoose_1 rfl (by decide) rfl ?_
  refine g_iconst F (nI 1) (by decide) dX2_leastLoose_2 ?_
  refine g_istore_n F 2 [(0, .ref c), (1, .int (nI 0)), (2, .int (nI 1))] [1, 2, 0] dX2_leastLoose_3 rfl (by decide) rfl ?_
  have lp_4 : ∀ (n_4 : Nat) (i : Nat) (s : Nat), (1 ≤ i) → (i ≤ k) → (s < i) → (∀ j, j < i → nu s ≤ nu j) → k - i < n_4 → GW E X 0 0 [ob c 2 [.ref m, .ref d, .ref t, .ref w], ob m 5 [.ref a, .int (nI k)], ia E a 60 f, ia E w 60 nl] [(0, .ref c), (1, .int (nI s)), (2, .int (nI i))] 4 [] := by
    intro n_4
    induction n_4 with
    | zero => intro i s hi1 hi hs hm hm_4; exact absurd hm_4 (Nat.not_lt_zero _)
    | succ n_4 ih_4 =>
      intro i s hi1 hi hs hm hm_4
      refine g_iload_n F 2 rfl dX2_leastLoose_4 ?_
      refine g_aload_n F 0 rfl dX2_leastLoose_5 ?_
      refine g_get F 2 0 0 inX2 rfl rfl (by decide) tw_fl_X2_24 rfl dX2_leastLoose_6 ?_
      refine g_rVi F (wr := [ob c 2 [.ref m, .ref d, .ref t, .ref w], ia E w 60 nl]) [.int (nI i)] (c_X5_size E m a f k ) (gi_V tw_ml_X2_42 tw_im_X5_size tw_se_X5_size tw_in_X5 tw_co_X5_size) 0 rfl (by decide) ⟨rfl, rfl, by decide, by decide, Nat.zero_le _, Nat.zero_le _⟩ 5 0 rfl rfl [1, 2] [0, 3] [0, 2, 3, 1] rfl rfl (by decide) rfl rfl (Nat.le_of_ble_eq_true rfl) dX2_leastLoose_9 ?_
      refine n_icmp_ge F 38 dX2_leastLoose_12 (by decide) (by omega) (by omega) (fun c_12 => ?_) (fun c_12 => ?_)
      · refine g_iload_n F 1 rfl dX2_leastLoose_38 ?_
        exact R _ s _ _ dX2_leastLoose_39 (⟨rfl, by omega, fun j hj => hm j (by omega)⟩)
      · refine g_aload_n F 0 rfl dX2_leastLoose_15 ?_
        refine g_get F 2 0 3 inX2 rfl rfl (by decide) tw_fl_X2_20 rfl dX2_leastLoose_16 ?_
        refine g_iload_n F 2 rfl dX2_leastLoose_19 ?_
        refine g_iald F 3 rfl (by omega) (by decide) dX2_leastLoose_20 ?_
        refine g_top (nI (nu i)) ((hn i (by omega)).1) ?_
        refine g_aload_n F 0 rfl dX2_leastLoose_21 ?_
        refine g_get F 2 0 3 inX2 rfl rfl (by decide) tw_fl_X2_20 rfl dX2_leastLoose_22 ?_
        refine g_iload_n F 1 rfl dX2_leastLoose_25 ?_
        refine g_iald F 3 rfl (by omega) (by decide) dX2_leastLoose_26 ?_
        refine g_top (nI (nu s)) ((hn s (by omega)).1) ?_
        refine n_icmp_ge F 32 dX2_leastLoose_27 (by decide) (by have := (hn i (by omega)).2; omega) (by have := (hn s (by omega)).2; omega) (fun c_27 => ?_) (fun c_27 => ?_)
        · refine g_iinc F (nI (i + 1)) 2 2 [(0, .ref c), (1, .int (nI s)), (2, .int (nI (i + 1)))] [1, 2, 0] dX2_leastLoose_32 rfl (n_inc i) (by decide) rfl ?_
          refine g_goto F 4 dX2_leastLoose_35 (by decide) ?_
          exact ih_4 (i + 1) s (by omega) (by omega) (by omega) (lt_s hm c_27) (by omega)
        · refine g_iload_n F 2 rfl dX2_leastLoose_30 ?_
          refine g_istore_n F 1 [(0, .ref c), (1, .int (nI i)), (2, .int (nI i))] [1, 0, 2] dX2_leastLoose_31 rfl (by decide) rfl ?_
          refine g_iinc F (nI (i + 1)) 2 2 [(0, .ref c), (1, .int (nI i)), (2, .int (nI (i + 1)))] [1, 2, 0] dX2_leastLoose_32 rfl (n_inc i) (by decide) rfl ?_
          refine g_goto F 4 dX2_leastLoose_35 (by decide) ?_
          exact ih_4 (i + 1) i (by omega) (by omega) (by omega) (lt_s (fun j hj => by have := hm j hj; omega) (Nat.le_refl _)) (by omega)
  exact lp_4 _ 1 0 (by omega) (by omega) (by omega) (fun j hj => by rw [show j = 0 by omega]; exact Nat.le_refl _) (Nat.lt_succ_self _)

set_option maxHeartbeats 4000000 in
set_option maxRecDepth 100000 in
theorem c_X2_reachFrom (E : Ev) (c : Nat) (t : Nat) (w : Nat) (nl : Nat → Int32) (m : Nat) (a : Nat) (f : Nat → Int32) (k : Nat) (d : Nat) (ro : Nat) (tb : Nat) (ka : Nat) (kn : Nat → Int32) (kd : Nat) (b : Nat → Nat) (nu : Nat → Nat) (dd : Nat → Nat → Nat) (x : Nat) (hb : MB f k b) (hx : x < k) (hn : ∀ i, i < k → nl i = nI (nu i) ∧ nu i ≤ 2147483647) (hd : ∀ i j, i < k → j < k → kn (b i * 60 + b j) = nI (dd (b i) (b j)) ∧ dd (b i) (b j) ≤ 100000) : CTv E yX2_reachFrom (wq yX2_reachFrom cX2_reachFrom 4 none) (rmk 2 45) [.ref c, .int (nI x)] [ob c 2 [.ref m, .ref d, .ref t, .ref w], ob m 5 [.ref a, .int (nI k)], ia E a 60 f, ob d 3 [.ref ro, .ref tb, .ref ka, .int (nI kd)], ia E ka 3600 kn, ia E w 60 nl] (fun (u : (Nat → Int32)) => ∀ i, i < k → u i = nI (rch dd b nu x i)) (fun (u : (Nat → Int32)) => [ob c 2 [.ref m, .ref d, .ref t, .ref w], ob m 5 [.ref a, .int (nI k)], ia E a 60 f, ob d 3 [.ref ro, .ref tb, .ref ka, .int (nI kd)], ia E ka 3600 kn, ia E w 60 u]) := by
  refine CTv.of (by decide) (Nat.le_of_ble_eq_true rfl) (fun X F R => ?_)
  refine g_lv [0, 1] [(0, .ref c), (1, .int (nI x))] rfl ?_
  have hk := hb.1
  refine g_iconst F (nI 0) (by decide) dX2_reachFrom_0 ?_
  refine g_istore_n F 2 [(0, .ref c), (1, .int (nI x)), (2, .int (nI 0))] [1, 2, 0] dX2_reachFrom_1 rfl (by decide) rfl ?_
  have lp_2 : ∀ (n_2 : Nat) (i : Nat) (g : Nat → Int32), (i ≤ k) → (∀ j, j < i → g j = nI (rch dd b nu x j)) → (∀ j, i ≤ j → g j = nl j) → k - i < n_2 → GW E X 0 0 [ob c 2 [.ref m, .ref d, .ref t, .ref w], ob m 5 [.ref a, .int (nI k)], ia E a 60 f, ob d 3 [.ref ro, .ref tb, .ref ka, .int (nI kd)], ia E ka 3600 kn, ia E w 60 g] [(0, .ref c), (1, .int (nI x)), (2, .int (nI i))] 2 [] := by
    intro n_2
    induction n_2 with
    | zero => intro i g hi g1 g2 hm_2; exact absurd hm_2 (Nat.not_lt_zero _)
    | succ n_2 ih_2 =>
      intro i g hi g1 g2 hm_2
      refine g_iload_n F 2 rfl dX2_reachFrom_2 ?_
      refine g_aload_n F 0 rfl dX2_reachFrom_3 ?_
      refine g_get F 2 0 0 inX2 rfl rfl (by decide) tw_fl_X2_24 rfl dX2_reachFrom_4 ?_
      refine g_rVi F (wr := [ob c 2 [.ref m, .ref d, .ref t, .ref w], ob d 3 [.ref ro, .ref tb, .ref ka, .int (nI kd)], ia E ka 3600 kn, ia E w 60 g]) [.int (nI i)] (c_X5_size E m a f k ) (gi_V tw_ml_X2_42 tw_im_X5_size tw_se_X5_size tw_in_X5 tw_co_X5_size) 0 rfl (by decide) ⟨rfl, rfl, by decide, by decide, Nat.zero_le _, Nat.zero_le _⟩ 5 0 rfl rfl [1, 2] [0, 3, 4, 5] [0, 4, 5, 1, 2, 3] rfl rfl (by decide) rfl rfl (Nat.le_of_ble_eq_true rfl) dX2_reachFrom_7 ?_
      refine n_icmp_ge F 70 dX2_reachFrom_10 (by decide) (by omega) (by omega) (fun c_10 => ?_) (fun c_10 => ?_)
      · exact R g _ _ dX2_reachFrom_70 (fun j hj => g1 j (by omega))
      · refine g_aload_n F 0 rfl dX2_reachFrom_13 ?_
        refine g_get F 2 0 3 inX2 rfl rfl (by decide) tw_fl_X2_20 rfl dX2_reachFrom_14 ?_
        refine g_iload_n F 2 rfl dX2_reachFrom_17 ?_
        refine g_iald F 5 rfl (by omega) (by decide) dX2_reachFrom_18 ?_
        refine g_top (nI (nu i)) ((g2 i (Nat.le_refl _)).trans (hn i (by omega)).1) ?_
        refine g_ldc F tw_cn_X2_48 dX2_reachFrom_19 ?_
        refine g_top (nI 2147483647) (by decide) ?_
        refine n_icmp_eq F 64 dX2_reachFrom_21 (by decide) (by have := (hn i (by omega)).2; omega) (by decide) (fun c_21 => ?_) (fun c_21 => ?_)
        · refine g_iinc F (nI (i + 1)) 2 2 [(0, .ref c), (1, .int (nI x)), (2, .int (nI (i + 1)))] [1, 2, 0] dX2_reachFrom_64 rfl (n_inc i) (by decide) rfl ?_
          refine g_goto F 2 dX2_reachFrom_67 (by decide) ?_
          exact ih_2 (i + 1) g (by omega) (lt_s g1 (by rw [g2 i (Nat.le_refl _), (hn i (by omega)).1]; unfold rch; rw [if_pos c_21, c_21])) (fun j h => g2 j (by omega)) (by omega)
        · refine g_aload_n F 0 rfl dX2_reachFrom_24 ?_
          refine g_get F 2 0 1 inX2 rfl rfl (by decide) tw_fl_X2_28 rfl dX2_reachFrom_25 ?_
          refine g_aload_n F 0 rfl dX2_reachFrom_28 ?_
          refine g_get F 2 0 0 inX2 rfl rfl (by decide) tw_fl_X2_24 rfl dX2_reachFrom_29 ?_
          refine g_iload_n F 1 rfl dX2_reachFrom_32 ?_
          refine g_rVi F (wr := [ob c 2 [.ref m, .ref d, .ref t, .ref w], ob d 3 [.ref ro, .ref tb, .ref ka, .int (nI kd)], ia E ka 3600 kn, ia E w 60 g]) [.ref d] (c_X5_at E m a f k b x (fun i hi => (hb.2.1 i hi).1) (by omega) (by omega)) (gi_V tw_ml_X2_59 tw_im_X5_at tw_se_X5_at tw_in_X5 tw_co_X5_at) 1 rfl (by decide) ⟨rfl, rfl, by decide, by decide, Nat.zero_le _, Nat.zero_le _⟩ 5 0 rfl rfl [1, 2] [0, 3, 4, 5] [0, 4, 5, 1, 2, 3] rfl rfl (by decide) rfl rfl (Nat.le_of_ble_eq_true rfl) dX2_reachFrom_33 ?_
          refine g_aload_n F 0 rfl dX2_reachFrom_36 ?_
          refine g_get F 2 0 0 inX2 rfl rfl (by decide) tw_fl_X2_24 rfl dX2_reachFrom_37 ?_
          refine g_iload_n F 2 rfl dX2_reachFrom_40 ?_
          refine g_rVi F (wr := [ob c 2 [.ref m, .ref d, .ref t, .ref w], ob d 3 [.ref ro, .ref tb, .ref ka, .int (nI kd)], ia E ka 3600 kn, ia E w 60 g]) [.int (nI (b x)), .ref d] (c_X5_at E m a f k b i (fun i hi => (hb.2.1 i hi).1) (by omega) (by omega)) (gi_V tw_ml_X2_59 tw_im_X5_at tw_se_X5_at tw_in_X5 tw_co_X5_at) 1 rfl (by decide) ⟨rfl, rfl, by decide, by decide, Nat.zero_le _, Nat.zero_le _⟩ 5 0 rfl rfl [1, 2] [0, 3, 4, 5] [0, 4, 5, 1, 2, 3] rfl rfl (by decide) rfl rfl (Nat.le_of_ble_eq_true rfl) dX2_reachFrom_41 ?_
          refine g_rVi F (wr := [ob c 2 [.ref m, .ref d, .ref t, .ref w], ob m 5 [.ref a, .int (nI k)], ia E a 60 f, ia E w 60 g]) [] (c_X3_pairKey E d ro tb ka kn kd dd (b x) (b i) ((hb.2.1 x (by omega)).2) ((hb.2.1 i (by omega)).2) ((hd x i (by omega) (by omega)).1)) (gi_V tw_ml_X2_63 tw_im_X3_pairKey tw_se_X3_pairKey tw_in_X3 tw_co_X3_pairKey) 2 rfl (by decide) ⟨rfl, rfl, by decide, by decide, Nat.zero_le _, Nat.zero_le _⟩ 3 0 rfl rfl [3, 4] [0, 1, 2, 5] [0, 1, 2, 4, 5, 3] rfl rfl (by decide) rfl rfl (Nat.le_of_ble_eq_true rfl) dX2_reachFrom_44 ?_
          refine g_istore_n F 3 [(0, .ref c), (1, .int (nI x)), (2, .int (nI i)), (3, .int (nI (pkN dd (b x) (b i))))] [1, 2, 3, 0] dX2_reachFrom_47 rfl (by decide) rfl ?_
          refine g_aload_n F 0 rfl dX2_reachFrom_48 ?_
          refine g_get F 2 0 3 inX2 rfl rfl (by decide) tw_fl_X2_20 rfl dX2_reachFrom_49 ?_
          refine g_iload_n F 2 rfl dX2_reachFrom_52 ?_
          refine g_aload_n F 0 rfl dX2_reachFrom_53 ?_
          refine g_get F 2 0 3 inX2 rfl rfl (by decide) tw_fl_X2_20 rfl dX2_reachFrom_54 ?_
          refine g_iload_n F 2 rfl dX2_reachFrom_57 ?_
          refine g_iald F 5 rfl (by omega) (by decide) dX2_reachFrom_58 ?_
          refine g_top (nI (nu i)) ((g2 i (Nat.le_refl _)).trans (hn i (by omega)).1) ?_
          refine g_iload_n F 3 rfl dX2_reachFrom_59 ?_
          refine g_mmin F tw_ml_X2_69 (by decide) (Nat.le_of_ble_eq_true rfl) (Nat.zero_le _) (Nat.zero_le _) dX2_reachFrom_60 ?_
          refine g_top _ (n_min (nu i) (pkN dd (b x) (b i)) (by have := (hn i (by omega)).2; omega) (by have := pk_le2 (hd x i (by omega) (by omega)).2 (hb.2.1 x (by omega)).2 (hb.2.1 i (by omega)).2; omega)) ?_
          refine g_iast F 5 [ob c 2 [.ref m, .ref d, .ref t, .ref w], ob m 5 [.ref a, .int (nI k)], ia E a 60 f, ob d 3 [.ref ro, .ref tb, .ref ka, .int (nI kd)], ia E ka 3600 kn, ia E w 60 (upd g i (nI (Nat.min (nu i) (pkN dd (b x) (b i)))))] rfl (by omega) (by decide) rfl dX2_reachFrom_63 ?_
          refine g_iinc F (nI (i + 1)) 2 2 [(0, .ref c), (1, .int (nI x)), (2, .int (nI (i + 1))), (3, .int (nI (pkN dd (b x) (b i))))] [1, 2, 0, 3] dX2_reachFrom_64 rfl (n_inc i) (by decide) rfl ?_
          refine g_goto F 2 dX2_reachFrom_67 (by decide) ?_
          refine g_lv [0, 1, 2] [(0, .ref c), (1, .int (nI x)), (2, .int (nI (i + 1)))] rfl ?_
          exact ih_2 (i + 1) (upd g i (nI (Nat.min (nu i) (pkN dd (b x) (b i))))) (by omega) (lt_s (fun j hj => (pk_un (by omega)).trans (g1 j hj)) (by rw [pk_us]; unfold rch; rw [if_neg c_21])) (fun j h => (pk_un (by omega)).trans (g2 j (by omega))) (by omega)
  exact lp_2 _ 0 nl (by omega) (fun j h => absurd h (Nat.not_lt_zero j)) (fun _ _ => rfl) (Nat.lt_succ_self _)

set_option maxHeartbeats 4000000 in
set_option maxRecDepth 100000 in
theorem c_X2_hangTogether (E : Ev) (c : Nat) (t : Nat) (w : Nat) (nl : Nat → Int32) (m : Nat) (a : Nat) (f : Nat → Int32) (k : Nat) (d : Nat) (ro : Nat) (tb : Nat) (ka : Nat) (kn : Nat → Int32) (kd : Nat) (ta : Nat) (tf : Nat → Int32) (tk : Int32) (b : Nat → Nat) (I : Nat → Bool) (dd : Nat → Nat → Nat) (hb : MB f k b) (hI : BK b k I) (hd : ∀ i j, i < k → j < k → kn (b i * 60 + b j) = nI (dd (b i) (b j)) ∧ dd (b i) (b j) ≤ 100000) (hsy : ∀ x y, I x = true → I y = true → dd x y = dd y x) : CTr E yX2_hangTogether (wq yX2_hangTogether cX2_hangTogether 3 (some (.object "NearBook$Keys"))) (rmk 3 68) [.ref c] [ob c 2 [.ref m, .ref d, .ref t, .ref w], ob m 5 [.ref a, .int (nI k)], ia E a 60 f, ob d 3 [.ref ro, .ref tb, .ref ka, .int (nI kd)], ia E ka 3600 kn, ob t 4 [.ref ta, .int tk], ia E ta 60 tf, ia E w 60 nl] t (fun (u : (Nat → Int32) × (Nat → Int32)) => ∃ to, SQ 360003600 u.2 (k - 1) to ∧ ∀ i, i + 1 < k → PE dd I (to i)) (fun (u : (Nat → Int32) × (Nat → Int32)) => [ob c 2 [.ref m, .ref d, .ref t, .ref w], ob m 5 [.ref a, .int (nI k)], ia E a 60 f, ob d 3 [.ref ro, .ref tb, .ref ka, .int (nI kd)], ia E ka 3600 kn, ob t 4 [.ref ta, .int (nI (k - 1))], ia E ta 60 u.2, ia E w 60 u.1]) := by
  refine CTr.of (by decide) (Nat.le_of_ble_eq_true rfl) (fun X F R => ?_)
  refine g_lv [0] [(0, .ref c)] rfl ?_
  have hk := hb.1
  refine g_aload_n F 0 rfl dX2_hangTogether_0 ?_
  refine g_get F 2 0 2 inX2 rfl rfl (by decide) tw_fl_X2_14 rfl dX2_hangTogether_1 ?_
  refine g_cVv F (wr := [ob c 2 [.ref m, .ref d, .ref t, .ref w], ob m 5 [.ref a, .int (nI k)], ia E a 60 f, ob d 3 [.ref ro, .ref tb, .ref ka, .int (nI kd)], ia E ka 3600 kn, ia E w 60 nl]) [] (c_X4_clear E t ta tf tk ) (gi_V tw_ml_X2_32 tw_im_X4_clear tw_se_X4_clear tw_in_X4 tw_co_X4_clear) 0 rfl (by decide) ⟨rfl, rfl, by decide, by decide, Nat.zero_le _, Nat.zero_le _⟩ 4 0 rfl rfl [5, 6] [0, 1, 2, 3, 4, 7] [0, 1, 2, 3, 4, 6, 7, 5] (fun u => [ob c 2 [.ref m, .ref d, .ref t, .ref w], ob m 5 [.ref a, .int (nI k)], ia E a 60 f, ob d 3 [.ref ro, .ref tb, .ref ka, .int (nI kd)], ia E ka 3600 kn, ob t 4 [.ref ta, .int (nI 0)], ia E ta 60 tf, ia E w 60 nl]) rfl rfl (by decide) (fun _ => rfl) rfl (Nat.le_of_ble_eq_true rfl) dX2_hangTogether_4 (fun u hu_4 => ?_)
  refine g_aload_n F 0 rfl dX2_hangTogether_7 ?_
  refine g_get F 2 0 3 inX2 rfl rfl (by decide) tw_fl_X2_20 rfl dX2_hangTogether_8 ?_
  refine g_ldc F tw_cn_X2_35 dX2_hangTogether_11 ?_
  refine g_top (nI 2147483646) (by decide) ?_
  refine g_cSv F (wr := [ob c 2 [.ref m, .ref d, .ref t, .ref w], ob m 5 [.ref a, .int (nI k)], ia E a 60 f, ob d 3 [.ref ro, .ref tb, .ref ka, .int (nI kd)], ia E ka 3600 kn, ob t 4 [.ref ta, .int (nI 0)], ia E ta 60 tf]) [] (c_J7_fill_53178 E w 60 nl (nI 2147483646) (by decide)) ⟨tw_ml_X2_36, tw_sm_J7_fill_53178, tw_in_J7, tw_co_J7_fill_53178⟩ 2 rfl (by decide) ⟨rfl, rfl, by decide, by decide, Nat.zero_le _, Nat.zero_le _⟩ [7] [0, 1, 2, 3, 4, 5, 6] [0, 1, 2, 3, 4, 5, 6, 7] (fun u => [ob c 2 [.ref m, .ref d, .ref t, .ref w], ob m 5 [.ref a, .int (nI k)], ia E a 60 f, ob d 3 [.ref ro, .ref tb, .ref ka, .int (nI kd)], ia E ka 3600 kn, ob t 4 [.ref ta, .int (nI 0)], ia E ta 60 tf, ia E w 60 (fl nl 60 (nI 2147483646))]) rfl rfl (by decide) (fun _ => rfl) rfl (Nat.le_of_ble_eq_true rfl) dX2_hangTogether_13 (fun u hu_13 => ?_)
  refine g_iconst F (nI 0) (by decide) dX2_hangTogether_16 ?_
  refine g_istore_n F 1 [(0, .ref c), (1, .int (nI 0))] [1, 0] dX2_hangTogether_17 rfl (by decide) rfl ?_
  refine g_iconst F (nI 1) (by decide) dX2_hangTogether_18 ?_
  refine g_istore_n F 2 [(0, .ref c), (1, .int (nI 0)), (2, .int (nI 1))] [1, 2, 0] dX2_hangTogether_19 rfl (by decide) rfl ?_
  have lp_20 : ∀ (n_20 : Nat) (st : Nat) (nw : Nat) (g : Nat → Int32) (tg : Nat → Int32) (nu : Nat → Nat) (to : Nat → Nat), (1 ≤ st) → (st ≤ k ∨ k = 0 ∧ st = 1) → (k = 0 ∧ st = 1 ∨ PRI dd I b k st nw nu to) → (∀ i, i < k → g i = nI (nu i) ∧ nu i ≤ 2147483647) → (SQ 360003600 tg (st - 1) to) → k + 1 - st < n_20 → GW E X 0 0 [ob c 2 [.ref m, .ref d, .ref t, .ref w], ob m 5 [.ref a, .int (nI k)], ia E a 60 f, ob d 3 [.ref ro, .ref tb, .ref ka, .int (nI kd)], ia E ka 3600 kn, ob t 4 [.ref ta, .int (nI (st - 1))], ia E ta 60 tg, ia E w 60 g] [(0, .ref c), (1, .int (nI nw)), (2, .int (nI st))] 20 [] := by
    intro n_20
    induction n_20 with
    | zero => intro st nw g tg nu to h1 h2 hpri hn hsq hm_20; exact absurd hm_20 (Nat.not_lt_zero _)
    | succ n_20 ih_20 =>
      intro st nw g tg nu to h1 h2 hpri hn hsq hm_20
      refine g_iload_n F 2 rfl dX2_hangTogether_20 ?_
      refine g_aload_n F 0 rfl dX2_hangTogether_21 ?_
      refine g_get F 2 0 0 inX2 rfl rfl (by decide) tw_fl_X2_24 rfl dX2_hangTogether_22 ?_
      refine g_rVi F (wr := [ob c 2 [.ref m, .ref d, .ref t, .ref w], ob d 3 [.ref ro, .ref tb, .ref ka, .int (nI kd)], ia E ka 3600 kn, ob t 4 [.ref ta, .int (nI (st - 1))], ia E ta 60 tg, ia E w 60 g]) [.int (nI st)] (c_X5_size E m a f k ) (gi_V tw_ml_X2_42 tw_im_X5_size tw_se_X5_size tw_in_X5 tw_co_X5_size) 0 rfl (by decide) ⟨rfl, rfl, by decide, by decide, Nat.zero_le _, Nat.zero_le _⟩ 5 0 rfl rfl [1, 2] [0, 3, 4, 5, 6, 7] [0, 6, 7, 1, 2, 3, 4, 5] rfl rfl (by decide) rfl rfl (Nat.le_of_ble_eq_true rfl) dX2_hangTogether_25 ?_
      refine n_icmp_ge F 68 dX2_hangTogether_28 (by decide) (by omega) (by omega) (fun c_28 => ?_) (fun c_28 => ?_)
      · refine g_ws [ob c 2 [.ref m, .ref d, .ref t, .ref w], ob m 5 [.ref a, .int (nI k)], ia E a 60 f, ob d 3 [.ref ro, .ref tb, .ref ka, .int (nI kd)], ia E ka 3600 kn, ob t 4 [.ref ta, .int (nI (k - 1))], ia E ta 60 tg, ia E w 60 g] (by rw [show k - 1 = st - 1 by omega]) ?_
        refine g_aload_n F 0 rfl dX2_hangTogether_68 ?_
        refine g_get F 2 0 2 inX2 rfl rfl (by decide) tw_fl_X2_14 rfl dX2_hangTogether_69 ?_
        exact R ((g, tg)) _ _ dX2_hangTogether_72 (by (try dsimp only); exact (⟨to, by rw [show k - 1 = st - 1 by omega]; exact hsq, fun i hi => by
      rcases hpri with q | q
      · omega
      · exact (q.2.2.2.2.2.2.2 i (by omega)).1⟩))
      · have hpr := hpri.resolve_left (by omega)
        refine g_aload_n F 0 rfl dX2_hangTogether_31 ?_
        refine g_get F 2 0 3 inX2 rfl rfl (by decide) tw_fl_X2_20 rfl dX2_hangTogether_32 ?_
        refine g_iload_n F 1 rfl dX2_hangTogether_35 ?_
        refine g_ldc F tw_cn_X2_48 dX2_hangTogether_36 ?_
        refine g_top (nI 2147483647) (by decide) ?_
        refine g_iast F 7 [ob c 2 [.ref m, .ref d, .ref t, .ref w], ob m 5 [.ref a, .int (nI k)], ia E a 60 f, ob d 3 [.ref ro, .ref tb, .ref ka, .int (nI kd)], ia E ka 3600 kn, ob t 4 [.ref ta, .int (nI (st - 1))], ia E ta 60 tg, ia E w 60 (upd g nw (nI 2147483647))] rfl (by have := hpr.1; omega) (by decide) rfl dX2_hangTogether_38 ?_
        refine g_aload_n F 0 rfl dX2_hangTogether_39 ?_
        refine g_iload_n F 1 rfl dX2_hangTogether_40 ?_
        refine g_cVv F (wr := [ob t 4 [.ref ta, .int (nI (st - 1))], ia E ta 60 tg]) [] (c_X2_reachFrom E c t w (upd g nw (nI 2147483647)) m a f k d ro tb ka kn kd b (mrk nu nw) dd nw (hb) (hpr.1) (fun i hi => by
          have := hn i hi
          unfold mrk upd
          split
          · exact ⟨rfl, Nat.le_refl _⟩
          · exact this) (hd)) (gi_V tw_ml_X2_49 tw_im_X2_reachFrom tw_se_X2_reachFrom tw_in_X2 tw_co_X2_reachFrom) 1 rfl (by decide) ⟨rfl, rfl, by decide, by decide, Nat.zero_le _, Nat.zero_le _⟩ 2 0 rfl rfl [0, 1, 2, 3, 4, 7] [5, 6] [2, 3, 4, 5, 6, 0, 1, 7] (fun u => [ob c 2 [.ref m, .ref d, .ref t, .ref w], ob m 5 [.ref a, .int (nI k)], ia E a 60 f, ob d 3 [.ref ro, .ref tb, .ref ka, .int (nI kd)], ia E ka 3600 kn, ob t 4 [.ref ta, .int (nI (st - 1))], ia E ta 60 tg, ia E w 60 u]) rfl rfl (by decide) (fun _ => rfl) rfl (Nat.le_of_ble_eq_true rfl) dX2_hangTogether_41 (fun u hu_41 => ?_)
        revert hu_41; revert u; intro nl2_41 hu_41
        refine g_aload_n F 0 rfl dX2_hangTogether_44 ?_
        refine g_cVi F (wr := [ob d 3 [.ref ro, .ref tb, .ref ka, .int (nI kd)], ia E ka 3600 kn, ob t 4 [.ref ta, .int (nI (st - 1))], ia E ta 60 tg]) [] (c_X2_leastLoose E c t w nl2_41 m a f k d b (rch dd b (mrk nu nw) nw) (hb) (by omega) (fun i hi => ⟨hu_41 i hi, by
          unfold rch
          split
          · exact Nat.le_refl _
          · have h9 : Nat.min (mrk nu nw i) (pkN dd (b nw) (b i)) ≤ pkN dd (b nw) (b i) := Nat.min_le_right _ _
            have := pk_le2 (hd nw i hpr.1 hi).2 (hb.2.1 nw hpr.1).2 (hb.2.1 i hi).2
            omega⟩)) (gi_V tw_ml_X2_53 tw_im_X2_leastLoose tw_se_X2_leastLoose tw_in_X2 tw_co_X2_leastLoose) 0 rfl (by decide) ⟨rfl, rfl, by decide, by decide, Nat.zero_le _, Nat.zero_le _⟩ 2 0 rfl rfl [0, 1, 2, 7] [3, 4, 5, 6] [4, 5, 6, 0, 1, 2, 3, 7] (fun u => [ob c 2 [.ref m, .ref d, .ref t, .ref w], ob m 5 [.ref a, .int (nI k)], ia E a 60 f, ob d 3 [.ref ro, .ref tb, .ref ka, .int (nI kd)], ia E ka 3600 kn, ob t 4 [.ref ta, .int (nI (st - 1))], ia E ta 60 tg, ia E w 60 nl2_41]) rfl rfl (by decide) (fun _ => rfl) rfl (Nat.le_of_ble_eq_true rfl) dX2_hangTogether_45 (fun r_45 u hu_45 => ?_)
        revert hu_45; revert u; intro s_45 hu_45
        obtain ⟨rfl, hs2, hs3⟩ := hu_45
        refine g_istore_n F 1 [(0, .ref c), (1, .int (nI s_45)), (2, .int (nI st))] [1, 0, 2] dX2_hangTogether_48 rfl (by decide) rfl ?_
        refine g_aload_n F 0 rfl dX2_hangTogether_49 ?_
        refine g_get F 2 0 2 inX2 rfl rfl (by decide) tw_fl_X2_14 rfl dX2_hangTogether_50 ?_
        refine g_aload_n F 0 rfl dX2_hangTogether_53 ?_
        refine g_get F 2 0 3 inX2 rfl rfl (by decide) tw_fl_X2_20 rfl dX2_hangTogether_54 ?_
        refine g_iload_n F 1 rfl dX2_hangTogether_57 ?_
        refine g_iald F 7 rfl (by omega) (by decide) dX2_hangTogether_58 ?_
        refine g_top (nI (rch dd b (mrk nu nw) nw s_45)) (hu_41 s_45 hs2) ?_
        have hstep := pri_step hb hI (fun i j hi hj => (hd i j hi hj).2) hsy hpr c_28 hs2 hs3
        refine g_cVv F (wr := [ob c 2 [.ref m, .ref d, .ref t, .ref w], ob m 5 [.ref a, .int (nI k)], ia E a 60 f, ob d 3 [.ref ro, .ref tb, .ref ka, .int (nI kd)], ia E ka 3600 kn, ia E w 60 nl2_41]) [] (c_X4_insert E t ta tg (st - 1) 360003600 to (rch dd b (mrk nu nw) nw s_45) (by decide) (by omega) (hsq) (fun i hi => hstep.2.1 i (by omega)) (hstep.1)) (gi_V tw_ml_X2_56 tw_im_X4_insert tw_se_X4_insert tw_in_X4 tw_co_X4_insert) 1 rfl (by decide) ⟨rfl, rfl, by decide, by decide, Nat.zero_le _, Nat.zero_le _⟩ 4 0 rfl rfl [5, 6] [0, 1, 2, 3, 4, 7] [0, 1, 2, 3, 4, 6, 7, 5] (fun u => [ob c 2 [.ref m, .ref d, .ref t, .ref w], ob m 5 [.ref a, .int (nI k)], ia E a 60 f, ob d 3 [.ref ro, .ref tb, .ref ka, .int (nI kd)], ia E ka 3600 kn, ob t 4 [.ref ta, .int (nI ((st - 1) + 1))], ia E ta 60 u, ia E w 60 nl2_41]) rfl rfl (by decide) (fun _ => rfl) rfl (Nat.le_of_ble_eq_true rfl) dX2_hangTogether_59 (fun u hu_59 => ?_)
        revert hu_59; revert u; intro f2_59 hu_59
        obtain ⟨to2, hsq2, hset⟩ := hu_59
        refine g_iinc F (nI (st + 1)) 2 2 [(0, .ref c), (1, .int (nI s_45)), (2, .int (nI (st + 1)))] [1, 2, 0] dX2_hangTogether_62 rfl (n_inc st) (by decide) rfl ?_
        refine g_goto F 20 dX2_hangTogether_65 (by decide) ?_
        refine g_ws [ob c 2 [.ref m, .ref d, .ref t, .ref w], ob m 5 [.ref a, .int (nI k)], ia E a 60 f, ob d 3 [.ref ro, .ref tb, .ref ka, .int (nI kd)], ia E ka 3600 kn, ob t 4 [.ref ta, .int (nI (st + 1 - 1))], ia E ta 60 f2_59, ia E w 60 nl2_41] (by rw [show st - 1 + 1 = st + 1 - 1 by omega]) ?_
        exact ih_20 (st + 1) s_45 nl2_41 f2_59 (rch dd b (mrk nu nw) nw) to2 (by omega) (by omega) (Or.inr (hstep.2.2 to2 (fun q => by rw [← hset q, show st - 1 + 1 = st by omega]))) (fun i hi => ⟨hu_41 i hi, by
          have hq := hstep.2.2 to2 (fun q => by rw [← hset q, show st - 1 + 1 = st by omega])
          exact hq.2.2.2.2.2.1 i hi⟩) (by rw [show st + 1 - 1 = st - 1 + 1 by omega]; exact hsq2) (by omega)
  refine g_ws [ob c 2 [.ref m, .ref d, .ref t, .ref w], ob m 5 [.ref a, .int (nI k)], ia E a 60 f, ob d 3 [.ref ro, .ref tb, .ref ka, .int (nI kd)], ia E ka 3600 kn, ob t 4 [.ref ta, .int (nI (1 - 1))], ia E ta 60 tf, ia E w 60 (fl nl 60 (nI 2147483646))] rfl ?_
  exact lp_20 _ 1 0 (fl nl 60 (nI 2147483646)) tf (fun _ => 2147483646) (fun _ => 0) (by omega) (by omega) ((Nat.eq_zero_or_pos k).elim (fun q => Or.inl ⟨q, rfl⟩) (fun q => Or.inr (pri_0 q))) (fun i hi => ⟨fl_at (by omega), by decide⟩) (⟨by omega, fun i hi => absurd hi (by omega), fun i j _ hj => absurd hj (by omega)⟩) (Nat.lt_succ_self _)
