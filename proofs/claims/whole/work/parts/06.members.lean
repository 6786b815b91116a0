/-- the book's numbers: f holds b, rising, k of them -/
def MB (f : Nat → Int32) (k : Nat) (b : Nat → Nat) : Prop := k ≤ 60 ∧ (∀ i, i < k → f i = nI (b i) ∧ b i < 60) ∧ ∀ i j, i < j → j < k → b i < b j
theorem mb_le {f : Nat → Int32} {k : Nat} {b : Nat → Nat} (h : MB f k b) {i j : Nat} (hij : i ≤ j) (hj : j < k) : b i ≤ b j := by
  rcases Nat.lt_or_ge i j with q | q
  · exact Nat.le_of_lt (h.2.2 i j q hj)
  · rw [show i = j by omega]; exact Nat.le_refl _
theorem mb_no {f : Nat → Int32} {k s : Nat} {b : Nat → Nat} {x : Int32} (h : MB f k b) (h2 : ∀ j, j < s → f j < x) (hs : s ≤ k) (h3 : s = k ∨ (x ≤ f s ∧ ¬ f s = x)) : ∀ i, i < k → x ≠ nI (b i) := by
  intro i hi e
  have hf := (h.2.1 i hi).1
  rcases Nat.lt_or_ge i s with q | q
  · have z := h2 i q
    rw [hf, ← e] at z
    exact Int32.lt_irrefl z
  · rcases h3 with rfl | ⟨h4, h5⟩
    · omega
    · have hfs := (h.2.1 s (by omega)).1
      rw [hfs, e] at h4 h5
      have b1 := (h.2.1 i hi).2
      have b2 := (h.2.1 s (by omega)).2
      have h6 := (nI_leI (by omega) (by omega)).mp h4
      have h7 := mb_le h q hi
      exact h5 (by rw [show b s = b i by omega])
theorem mb_ge {f : Nat → Int32} {k : Nat} {b : Nat → Nat} (h : MB f k b) : ∀ i, i < k → i ≤ b i := by
  intro i
  induction i with
  | zero => intro _; exact Nat.zero_le _
  | succ i ih =>
    intro hi
    have := ih (by omega)
    have := h.2.2 i (i + 1) (by omega) hi
    omega
theorem mb_gap {f : Nat → Int32} {k : Nat} {b : Nat → Nat} (h : MB f k b) : ∀ d i, i + d < k → b i + d ≤ b (i + d) := by
  intro d
  induction d with
  | zero => intro i _; exact Nat.le_refl _
  | succ d ih =>
    intro i hi
    have := ih i (by omega)
    have := h.2.2 (i + d) (i + (d + 1)) (by omega) hi
    omega
theorem mb_lt60 {f : Nat → Int32} {k t : Nat} {b : Nat → Nat} (h : MB f k b) (hn : ∀ i, i < k → b i ≠ t) (ht : t < 60) : k < 60 := by
  rcases Nat.lt_or_ge k 60 with q | q
  · exact q
  · have hk := h.1
    have h1 := mb_ge h t (by omega)
    have h2 := mb_gap h (59 - t) t (by omega)
    have h3 := (h.2.1 (t + (59 - t)) (by omega)).2
    exact absurd (by omega) (hn t (by omega))
theorem mb_ins {f g : Nat → Int32} {k s t : Nat} {b : Nat → Nat} (h : MB f k b) (hn : ∀ i, i < k → b i ≠ t) (ht : t < 60) (hs : s ≤ k) (h2 : ∀ j, j < s → f j < nI t) (h3 : s = k ∨ nI t ≤ f s) (g1 : ∀ j, j < s → g j = f j) (g2 : ∀ j, s < j → j ≤ k → g j = f (j - 1)) :
    ∃ b2, MB (upd g s (nI t)) (k + 1) b2 ∧ ∀ q, (∃ i, i < k + 1 ∧ b2 i = q) ↔ (q = t ∨ ∃ i, i < k ∧ b i = q) := by
  have hk := mb_lt60 h hn ht
  have lo : ∀ j, j < s → b j < t := by
    intro j hj
    have z := h2 j hj
    rw [(h.2.1 j (by omega)).1] at z
    exact (nI_ltI (by have := (h.2.1 j (by omega)).2; omega) (by omega)).mp z
  have hi : ∀ j, s ≤ j → j < k → t < b j := by
    intro j hj hjk
    rcases h3 with rfl | z
    · omega
    · rw [(h.2.1 s (by omega)).1] at z
      have z2 := (nI_leI (by omega) (by have := (h.2.1 s (by omega)).2; omega)).mp z
      have z3 := mb_le h hj hjk
      have z4 := hn s (by omega)
      omega
  refine ⟨fun j => if j < s then b j else if j = s then t else b (j - 1), ⟨by omega, ?_, ?_⟩, ?_⟩
  · intro i hik
    by_cases c1 : i < s
    · simp only [c1, if_true]
      rw [pk_un (by omega), g1 i c1]
      exact h.2.1 i (by omega)
    · by_cases c2 : i = s
      · subst c2
        simp only [Nat.lt_irrefl, if_false, if_true]
        exact ⟨pk_us, ht⟩
      · simp only [c1, c2, if_false]
        rw [pk_un c2, g2 i (by omega) (by omega)]
        exact h.2.1 (i - 1) (by omega)
  · intro i j hij hjk
    simp only
    by_cases c1 : j < s
    · rw [if_pos (by omega), if_pos c1]
      exact h.2.2 i j hij (by omega)
    · by_cases c2 : j = s
      · rw [if_pos (by omega), if_neg c1, if_pos c2]
        exact lo i (by omega)
      · rw [if_neg c1, if_neg c2]
        by_cases c3 : i < s
        · rw [if_pos c3]
          exact Nat.lt_trans (lo i c3) (hi (j - 1) (by omega) (by omega))
        · rw [if_neg c3]
          by_cases c4 : i = s
          · rw [if_pos c4]
            exact hi (j - 1) (by omega) (by omega)
          · rw [if_neg c4]
            exact h.2.2 (i - 1) (j - 1) (by omega) (by omega)
  · intro q
    constructor
    · rintro ⟨i, hik, e⟩
      simp only at e
      by_cases c1 : i < s
      · rw [if_pos c1] at e
        exact Or.inr ⟨i, by omega, e⟩
      · rw [if_neg c1] at e
        by_cases c2 : i = s
        · rw [if_pos c2] at e
          exact Or.inl e.symm
        · rw [if_neg c2] at e
          exact Or.inr ⟨i - 1, by omega, e⟩
    · rintro (rfl | ⟨i, hik, e⟩)
      · exact ⟨s, by omega, by simp⟩
      · by_cases c1 : i < s
        · exact ⟨i, by omega, by simp only [c1, if_true]; exact e⟩
        · refine ⟨i + 1, by omega, ?_⟩
          simp only
          rw [if_neg (by omega), if_neg (by omega)]
          exact e
theorem mb_del {f g : Nat → Int32} {k s i0 : Nat} {b : Nat → Nat} (h : MB f (k + 1) b) (hi : i0 < k + 1) (hs : s ≤ k) (h2 : ∀ j, j < s → f j < nI (b i0)) (h3 : s = k ∨ nI (b i0) ≤ f s) (g1 : ∀ j, j < s → g j = f j) (g2 : ∀ j, s ≤ j → j < k → g j = f (j + 1)) :
    ∃ b2, MB g k b2 ∧ ∀ q, (∃ i, i < k ∧ b2 i = q) ↔ (q ≠ b i0 ∧ ∃ i, i < k + 1 ∧ b i = q) := by
  have hk := h.1
  have lo : ∀ j, j < s → b j < b i0 := by
    intro j hj
    have z := h2 j hj
    rw [(h.2.1 j (by omega)).1] at z
    exact (nI_ltI (by have := (h.2.1 j (by omega)).2; omega) (by have := (h.2.1 i0 hi).2; omega)).mp z
  have e0 : i0 = s := by
    rcases Nat.lt_trichotomy i0 s with q | q | q
    · exact absurd (lo i0 q) (Nat.lt_irrefl _)
    · exact q
    · have z1 := h.2.2 s i0 q hi
      rcases h3 with rfl | z
      · omega
      · rw [(h.2.1 s (by omega)).1] at z
        have z2 := (nI_leI (by have := (h.2.1 i0 hi).2; omega) (by have := (h.2.1 s (by omega)).2; omega)).mp z
        omega
  subst e0
  have up : ∀ j, i0 ≤ j → j < k → b i0 < b (j + 1) := fun j h1 h2 => h.2.2 i0 (j + 1) (by omega) (by omega)
  refine ⟨fun j => if j < i0 then b j else b (j + 1), ⟨by omega, ?_, ?_⟩, ?_⟩
  · intro i hik
    simp only
    by_cases c1 : i < i0
    · rw [if_pos c1, g1 i c1]
      exact h.2.1 i (by omega)
    · rw [if_neg c1, g2 i (by omega) hik]
      exact h.2.1 (i + 1) (by omega)
  · intro i j hij hjk
    simp only
    by_cases c1 : j < i0
    · rw [if_pos (by omega), if_pos c1]
      exact h.2.2 i j hij (by omega)
    · rw [if_neg c1]
      by_cases c3 : i < i0
      · rw [if_pos c3]
        exact h.2.2 i (j + 1) (by omega) (by omega)
      · rw [if_neg c3]
        exact h.2.2 (i + 1) (j + 1) (by omega) (by omega)
  · intro q
    constructor
    · rintro ⟨i, hik, e⟩
      simp only at e
      by_cases c1 : i < i0
      · rw [if_pos c1] at e
        have := lo i c1
        exact ⟨by omega, i, by omega, e⟩
      · rw [if_neg c1] at e
        have := up i (by omega) hik
        exact ⟨by omega, i + 1, by omega, e⟩
    · rintro ⟨hne, i, hik, e⟩
      rcases Nat.lt_trichotomy i i0 with q1 | q1 | q1
      · exact ⟨i, by omega, by simp only [q1, if_true]; exact e⟩
      · exact absurd (by rw [← e, q1]) hne
      · refine ⟨i - 1, by omega, ?_⟩
        simp only
        rw [if_neg (by omega), show i - 1 + 1 = i by omega]
        exact e

set_option maxHeartbeats 4000000 in
set_option maxRecDepth 100000 in
theorem c_X5_size (E : Ev) (m : Nat) (a : Nat) (f : Nat → Int32) (k : Nat)  : RDi E yX5_size (wq yX5_size cX5_size 1 (some .int)) (rmk 0 0) [.ref m] [ob m 5 [.ref a, .int (nI k)], ia E a 60 f] (nI k) := by
  refine CTi.of (by decide) (Nat.le_of_ble_eq_true rfl) (fun X F R => ?_)
  refine g_lv [0] [(0, .ref m)] rfl ?_
  refine g_aload_n F 0 rfl dX5_size_0 ?_
  refine g_get F 5 0 1 inX5 rfl rfl (by decide) tw_fl_X5_15 rfl dX5_size_1 ?_
  exact R _ (()) _ _ dX5_size_4 (rfl)

set_option maxHeartbeats 4000000 in
set_option maxRecDepth 100000 in
theorem c_X5_at (E : Ev) (m : Nat) (a : Nat) (f : Nat → Int32) (k : Nat) (b : Nat → Nat) (j : Nat) (hb : ∀ i, i < k → f i = nI (b i)) (hj : j < k) (hk : k ≤ 60) : RDi E yX5_at (wq yX5_at cX5_at 2 (some .int)) (rmk 0 0) [.ref m, .int (nI j)] [ob m 5 [.ref a, .int (nI k)], ia E a 60 f] (nI (b j)) := by
  refine CTi.of (by decide) (Nat.le_of_ble_eq_true rfl) (fun X F R => ?_)
  refine g_lv [0, 1] [(0, .ref m), (1, .int (nI j))] rfl ?_
  refine g_aload_n F 0 rfl dX5_at_0 ?_
  refine g_get F 5 0 0 inX5 rfl rfl (by decide) tw_fl_X5_9 rfl dX5_at_1 ?_
  refine g_iload_n F 1 rfl dX5_at_4 ?_
  refine g_iald F 1 rfl (by omega) (by decide) dX5_at_5 ?_
  refine g_top (nI (b j)) (hb j hj) ?_
  exact R _ (()) _ _ dX5_at_6 (rfl)

set_option maxHeartbeats 4000000 in
set_option maxRecDepth 100000 in
theorem c_X5_spotOf (E : Ev) (m : Nat) (a : Nat) (f : Nat → Int32) (k : Nat) (x : Int32) (hk : k ≤ 60) : CTi E yX5_spotOf (wq yX5_spotOf cX5_spotOf 3 (some .int)) (rmk 0 0) [.ref m, .int x] [ob m 5 [.ref a, .int (nI k)], ia E a 60 f] (fun (r : Int32) (u : Nat) => r = nI u ∧ u ≤ k ∧ (∀ j, j < u → f j < x) ∧ (u = k ∨ x ≤ f u)) (fun (u : Nat) => [ob m 5 [.ref a, .int (nI k)], ia E a 60 f]) := by
  refine CTi.of (by decide) (Nat.le_of_ble_eq_true rfl) (fun X F R => ?_)
  refine g_lv [0, 1] [(0, .ref m), (1, .int x)] rfl ?_
  refine g_iconst F (nI 0) (by decide) dX5_spotOf_0 ?_
  refine g_istore_n F 2 [(0, .ref m), (1, .int x), (2, .int (nI 0))] [1, 2, 0] dX5_spotOf_1 rfl (by decide) rfl ?_
  have lp_2 : ∀ (n_2 : Nat) (i : Nat), (i ≤ k) → (∀ j, j < i → f j < x) → k - i < n_2 → GW E X 0 0 [ob m 5 [.ref a, .int (nI k)], ia E a 60 f] [(0, .ref m), (1, .int x), (2, .int (nI i))] 2 [] := by
    intro n_2
    induction n_2 with
    | zero => intro i hi hp hm_2; exact absurd hm_2 (Nat.not_lt_zero _)
    | succ n_2 ih_2 =>
      intro i hi hp hm_2
      refine g_iload_n F 2 rfl dX5_spotOf_2 ?_
      refine g_aload_n F 0 rfl dX5_spotOf_3 ?_
      refine g_get F 5 0 1 inX5 rfl rfl (by decide) tw_fl_X5_15 rfl dX5_spotOf_4 ?_
      refine n_icmp_ge F 26 dX5_spotOf_7 (by decide) (by omega) (by omega) (fun c_7 => ?_) (fun c_7 => ?_)
      · refine g_iload_n F 2 rfl dX5_spotOf_26 ?_
        exact R _ i _ _ dX5_spotOf_27 (⟨rfl, hi, hp, Or.inl (by omega)⟩)
      · refine g_aload_n F 0 rfl dX5_spotOf_10 ?_
        refine g_get F 5 0 0 inX5 rfl rfl (by decide) tw_fl_X5_9 rfl dX5_spotOf_11 ?_
        refine g_iload_n F 2 rfl dX5_spotOf_14 ?_
        refine g_iald F 1 rfl (by omega) (by decide) dX5_spotOf_15 ?_
        refine g_iload_n F 1 rfl dX5_spotOf_16 ?_
        refine g_icmp_ge F 26 dX5_spotOf_17 (by decide) (fun c_17 => ?_) (fun c_17 => ?_)
        · refine g_iload_n F 2 rfl dX5_spotOf_26 ?_
          exact R _ i _ _ dX5_spotOf_27 (⟨rfl, hi, hp, Or.inr c_17⟩)
        · refine g_iinc F (nI (i + 1)) 2 2 [(0, .ref m), (1, .int x), (2, .int (nI (i + 1)))] [1, 2, 0] dX5_spotOf_20 rfl (n_inc i) (by decide) rfl ?_
          refine g_goto F 2 dX5_spotOf_23 (by decide) ?_
          exact ih_2 (i + 1) (by omega) (lt_s hp (Int32.not_le.mp c_17)) (by omega)
  exact lp_2 _ 0 (by omega) (fun j h => absurd h (Nat.not_lt_zero j)) (Nat.lt_succ_self _)

set_option maxHeartbeats 4000000 in
set_option maxRecDepth 100000 in
theorem c_X5_holds (E : Ev) (m : Nat) (a : Nat) (f : Nat → Int32) (k : Nat) (b : Nat → Nat) (x : Int32) (hb : MB f k b) : CTi E yX5_holds (wq yX5_holds cX5_holds 3 (some .boolean)) (rmk 1 22) [.ref m, .int x] [ob m 5 [.ref a, .int (nI k)], ia E a 60 f] (fun (r : Int32) (u : Unit) => (r = 1 ∧ ∃ i, i < k ∧ x = nI (b i)) ∨ (r = 0 ∧ ∀ i, i < k → x ≠ nI (b i))) (fun (u : Unit) => [ob m 5 [.ref a, .int (nI k)], ia E a 60 f]) := by
  refine CTi.ofZ (by decide) (Nat.le_of_ble_eq_true rfl) (fun X F R => ?_)
  refine g_lv [0, 1] [(0, .ref m), (1, .int x)] rfl ?_
  have hk := hb.1
  refine g_aload_n F 0 rfl dX5_holds_0 ?_
  refine g_iload_n F 1 rfl dX5_holds_1 ?_
  refine g_cVi F (wr := []) [] (c_X5_spotOf E m a f k x (by omega)) (gi_V tw_ml_X5_19 tw_im_X5_spotOf tw_se_X5_spotOf tw_in_X5 tw_co_X5_spotOf) 1 rfl (by decide) ⟨rfl, rfl, by decide, by decide, Nat.zero_le _, Nat.zero_le _⟩ 5 0 rfl rfl [0, 1] [] [0, 1] (fun u => [ob m 5 [.ref a, .int (nI k)], ia E a 60 f]) rfl rfl (by decide) (fun _ => rfl) rfl (Nat.le_of_ble_eq_true rfl) dX5_holds_2 (fun r_2 u hu_2 => ?_)
  revert hu_2; revert u; intro s_2 hu_2
  obtain ⟨rfl, hs1, hs2, hs3⟩ := hu_2
  refine g_istore_n F 2 [(0, .ref m), (1, .int x), (2, .int (nI s_2))] [1, 2, 0] dX5_holds_5 rfl (by decide) rfl ?_
  refine g_iload_n F 2 rfl dX5_holds_6 ?_
  refine g_aload_n F 0 rfl dX5_holds_7 ?_
  refine g_get F 5 0 1 inX5 rfl rfl (by decide) tw_fl_X5_15 rfl dX5_holds_8 ?_
  refine n_icmp_ge F 28 dX5_holds_11 (by decide) (by omega) (by omega) (fun c_11 => ?_) (fun c_11 => ?_)
  · refine g_iconst F (nI 0) (by decide) dX5_holds_28 ?_
    exact R _ (()) _ _ dX5_holds_29 (Or.inl rfl) (Or.inr ⟨rfl, mb_no hb hs2 hs1 (Or.inl (by omega))⟩)
  · refine g_aload_n F 0 rfl dX5_holds_14 ?_
    refine g_get F 5 0 0 inX5 rfl rfl (by decide) tw_fl_X5_9 rfl dX5_holds_15 ?_
    refine g_iload_n F 2 rfl dX5_holds_18 ?_
    refine g_iald F 1 rfl (by omega) (by decide) dX5_holds_19 ?_
    refine g_iload_n F 1 rfl dX5_holds_20 ?_
    refine g_icmp_ne F 28 dX5_holds_21 (by decide) (fun c_21 => ?_) (fun c_21 => ?_)
    · refine g_iconst F (nI 0) (by decide) dX5_holds_28 ?_
      exact R _ (()) _ _ dX5_holds_29 (Or.inl rfl) (Or.inr ⟨rfl, mb_no hb hs2 hs1 (Or.inr ⟨hs3.resolve_left (by omega), c_21⟩)⟩)
    · refine g_iconst F (nI 1) (by decide) dX5_holds_24 ?_
      refine g_goto F 29 dX5_holds_25 (by decide) ?_
      exact R _ (()) _ _ dX5_holds_29 (Or.inr rfl) (Or.inl ⟨rfl, s_2, c_11, by rw [← c_21]; exact (hb.2.1 s_2 c_11).1⟩)

set_option maxHeartbeats 4000000 in
set_option maxRecDepth 100000 in
theorem c_X5_insert (E : Ev) (m : Nat) (a : Nat) (f : Nat → Int32) (k : Nat) (b : Nat → Nat) (t : Nat) (hb : MB f k b) (hn : ∀ i, i < k → b i ≠ t) (ht : t < 60) : CTv E yX5_insert (wq yX5_insert cX5_insert 4 none) (rmk 1 22) [.ref m, .int (nI t)] [ob m 5 [.ref a, .int (nI k)], ia E a 60 f] (fun (u : (Nat → Int32)) => ∃ b2, MB u (k + 1) b2 ∧ ∀ q, (∃ i, i < k + 1 ∧ b2 i = q) ↔ (q = t ∨ ∃ i, i < k ∧ b i = q)) (fun (u : (Nat → Int32)) => [ob m 5 [.ref a, .int (nI (k + 1))], ia E a 60 u]) := by
  refine CTv.of (by decide) (Nat.le_of_ble_eq_true rfl) (fun X F R => ?_)
  refine g_lv [0, 1] [(0, .ref m), (1, .int (nI t))] rfl ?_
  have hk := mb_lt60 hb hn ht
  refine g_aload_n F 0 rfl dX5_insert_0 ?_
  refine g_get F 5 0 1 inX5 rfl rfl (by decide) tw_fl_X5_15 rfl dX5_insert_1 ?_
  refine g_bipush F (nI 60) (by decide) dX5_insert_4 ?_
  refine n_icmp_lt F 10 dX5_insert_6 (by decide) (by omega) (by omega) (fun c_6 => ?_) (fun c_6 => absurd c_6 (by omega))
  refine g_aload_n F 0 rfl dX5_insert_10 ?_
  refine g_iload_n F 1 rfl dX5_insert_11 ?_
  refine g_cVi F (wr := []) [] (c_X5_spotOf E m a f k (nI t) (by omega)) (gi_V tw_ml_X5_19 tw_im_X5_spotOf tw_se_X5_spotOf tw_in_X5 tw_co_X5_spotOf) 1 rfl (by decide) ⟨rfl, rfl, by decide, by decide, Nat.zero_le _, Nat.zero_le _⟩ 5 0 rfl rfl [0, 1] [] [0, 1] (fun u => [ob m 5 [.ref a, .int (nI k)], ia E a 60 f]) rfl rfl (by decide) (fun _ => rfl) rfl (Nat.le_of_ble_eq_true rfl) dX5_insert_12 (fun r_12 u hu_12 => ?_)
  revert hu_12; revert u; intro s_12 hu_12
  obtain ⟨rfl, hs1, hs2, hs3⟩ := hu_12
  refine g_istore_n F 2 [(0, .ref m), (1, .int (nI t)), (2, .int (nI s_12))] [1, 2, 0] dX5_insert_15 rfl (by decide) rfl ?_
  refine g_aload_n F 0 rfl dX5_insert_16 ?_
  refine g_get F 5 0 1 inX5 rfl rfl (by decide) tw_fl_X5_15 rfl dX5_insert_17 ?_
  refine g_istore_n F 3 [(0, .ref m), (1, .int (nI t)), (2, .int (nI s_12)), (3, .int (nI k))] [1, 2, 3, 0] dX5_insert_20 rfl (by decide) rfl ?_
  have lp_21 : ∀ (n_21 : Nat) (i : Nat) (g : Nat → Int32), (s_12 ≤ i) → (i ≤ k) → (∀ j, j < i → g j = f j) → (∀ j, i < j → j ≤ k → g j = f (j - 1)) → i < n_21 → GW E X 0 0 [ob m 5 [.ref a, .int (nI k)], ia E a 60 g] [(0, .ref m), (1, .int (nI t)), (2, .int (nI s_12)), (3, .int (nI i))] 21 [] := by
    intro n_21
    induction n_21 with
    | zero => intro i g hi1 hi2 g1 g2 hm_21; exact absurd hm_21 (Nat.not_lt_zero _)
    | succ n_21 ih_21 =>
      intro i g hi1 hi2 g1 g2 hm_21
      refine g_iload_n F 3 rfl dX5_insert_21 ?_
      refine g_iload_n F 2 rfl dX5_insert_22 ?_
      refine n_icmp_le F 46 dX5_insert_23 (by decide) (by omega) (by omega) (fun c_23 => ?_) (fun c_23 => ?_)
      · refine g_aload_n F 0 rfl dX5_insert_46 ?_
        refine g_get F 5 0 0 inX5 rfl rfl (by decide) tw_fl_X5_9 rfl dX5_insert_47 ?_
        refine g_iload_n F 2 rfl dX5_insert_50 ?_
        refine g_iload_n F 1 rfl dX5_insert_51 ?_
        refine g_iast F 1 [ob m 5 [.ref a, .int (nI k)], ia E a 60 (upd g s_12 (nI t))] rfl (by omega) (by decide) rfl dX5_insert_52 ?_
        refine g_aload_n F 0 rfl dX5_insert_53 ?_
        refine g_dup F rfl dX5_insert_54 ?_
        refine g_get F 5 0 1 inX5 rfl rfl (by decide) tw_fl_X5_15 rfl dX5_insert_55 ?_
        refine g_iconst F (nI 1) (by decide) dX5_insert_58 ?_
        refine n_add F dX5_insert_59 ?_
        refine g_put F 5 0 1 [ob m 5 [.ref a, .int (nI (k + 1))], ia E a 60 (upd g s_12 (nI t))] inX5 tyX5_ok nmX5 rfl rfl (by decide) tw_fl_X5_15 rfl rfl rfl rfl (Nat.le_of_ble_eq_true rfl) rfl dX5_insert_60 ?_
        exact R (upd g s_12 (nI t)) _ _ dX5_insert_63 (mb_ins hb hn ht hs1 hs2 hs3 (fun j hj => g1 j (by omega)) (fun j h1 h2 => g2 j (by omega) h2))
      · obtain ⟨z, rfl⟩ : ∃ z, i = z + 1 := ⟨i - 1, by omega⟩
        refine g_aload_n F 0 rfl dX5_insert_26 ?_
        refine g_get F 5 0 0 inX5 rfl rfl (by decide) tw_fl_X5_9 rfl dX5_insert_27 ?_
        refine g_iload_n F 3 rfl dX5_insert_30 ?_
        refine g_aload_n F 0 rfl dX5_insert_31 ?_
        refine g_get F 5 0 0 inX5 rfl rfl (by decide) tw_fl_X5_9 rfl dX5_insert_32 ?_
        refine g_iload_n F 3 rfl dX5_insert_35 ?_
        refine g_iconst F (nI 1) (by decide) dX5_insert_36 ?_
        refine n_sub F (by omega) dX5_insert_37 ?_
        refine g_top (nI z) (rfl) ?_
        refine g_iald F 1 rfl (by omega) (by decide) dX5_insert_38 ?_
        refine g_iast F 1 [ob m 5 [.ref a, .int (nI k)], ia E a 60 (upd g (z + 1) (g z))] rfl (by omega) (by decide) rfl dX5_insert_39 ?_
        refine g_iinc F (nI z) 3 3 [(0, .ref m), (1, .int (nI t)), (2, .int (nI s_12)), (3, .int (nI z))] [1, 2, 3, 0] dX5_insert_40 rfl (n_dec z) (by decide) rfl ?_
        refine g_goto F 21 dX5_insert_43 (by decide) ?_
        exact ih_21 z (upd g (z + 1) (g z)) (by omega) (by omega) (fun j hj => (pk_un (by omega)).trans (g1 j (by omega))) (fun j h1 h2 => by
            by_cases c : j = z + 1
            · subst c; exact pk_us.trans (g1 z (by omega))
            · exact (pk_un c).trans (g2 j (by omega) h2)) (by omega)
  exact lp_21 _ k f (by omega) (by omega) (fun _ _ => rfl) (fun j h1 h2 => absurd h1 (by omega)) (Nat.lt_succ_self _)

set_option maxHeartbeats 4000000 in
set_option maxRecDepth 100000 in
theorem c_X5_remove (E : Ev) (m : Nat) (a : Nat) (f : Nat → Int32) (k : Nat) (b : Nat → Nat) (i0 : Nat) (hb : MB f (k + 1) b) (hi0 : i0 < k + 1) : CTv E yX5_remove (wq yX5_remove cX5_remove 3 none) (rmk 1 22) [.ref m, .int (nI (b i0))] [ob m 5 [.ref a, .int (nI (k + 1))], ia E a 60 f] (fun (u : (Nat → Int32)) => ∃ b2, MB u k b2 ∧ ∀ q, (∃ i, i < k ∧ b2 i = q) ↔ (q ≠ b i0 ∧ ∃ i, i < k + 1 ∧ b i = q)) (fun (u : (Nat → Int32)) => [ob m 5 [.ref a, .int (nI k)], ia E a 60 u]) := by
  refine CTv.of (by decide) (Nat.le_of_ble_eq_true rfl) (fun X F R => ?_)
  refine g_lv [0, 1] [(0, .ref m), (1, .int (nI (b i0)))] rfl ?_
  have hk := hb.1
  refine g_aload_n F 0 rfl dX5_remove_0 ?_
  refine g_dup F rfl dX5_remove_1 ?_
  refine g_get F 5 0 1 inX5 rfl rfl (by decide) tw_fl_X5_15 rfl dX5_remove_2 ?_
  refine g_iconst F (nI 1) (by decide) dX5_remove_5 ?_
  refine n_sub F (by omega) dX5_remove_6 ?_
  refine g_top (nI k) (rfl) ?_
  refine g_put F 5 0 1 [ob m 5 [.ref a, .int (nI k)], ia E a 60 f] inX5 tyX5_ok nmX5 rfl rfl (by decide) tw_fl_X5_15 rfl rfl rfl rfl (Nat.le_of_ble_eq_true rfl) rfl dX5_remove_7 ?_
  refine g_aload_n F 0 rfl dX5_remove_10 ?_
  refine g_iload_n F 1 rfl dX5_remove_11 ?_
  refine g_cVi F (wr := []) [] (c_X5_spotOf E m a f k (nI (b i0)) (by omega)) (gi_V tw_ml_X5_19 tw_im_X5_spotOf tw_se_X5_spotOf tw_in_X5 tw_co_X5_spotOf) 1 rfl (by decide) ⟨rfl, rfl, by decide, by decide, Nat.zero_le _, Nat.zero_le _⟩ 5 0 rfl rfl [0, 1] [] [0, 1] (fun u => [ob m 5 [.ref a, .int (nI k)], ia E a 60 f]) rfl rfl (by decide) (fun _ => rfl) rfl (Nat.le_of_ble_eq_true rfl) dX5_remove_12 (fun r_12 u hu_12 => ?_)
  revert hu_12; revert u; intro s_12 hu_12
  obtain ⟨rfl, hs1, hs2, hs3⟩ := hu_12
  refine g_istore_n F 2 [(0, .ref m), (1, .int (nI (b i0))), (2, .int (nI s_12))] [1, 2, 0] dX5_remove_15 rfl (by decide) rfl ?_
  have lp_16 : ∀ (n_16 : Nat) (i : Nat) (g : Nat → Int32), (s_12 ≤ i) → (i ≤ k) → (∀ j, j < s_12 → g j = f j) → (∀ j, s_12 ≤ j → j < i → g j = f (j + 1)) → (∀ j, i ≤ j → g j = f j) → k - i < n_16 → GW E X 0 0 [ob m 5 [.ref a, .int (nI k)], ia E a 60 g] [(0, .ref m), (1, .int (nI (b i0))), (2, .int (nI i))] 16 [] := by
    intro n_16
    induction n_16 with
    | zero => intro i g hi1 hi2 g1 g2 g3 hm_16; exact absurd hm_16 (Nat.not_lt_zero _)
    | succ n_16 ih_16 =>
      intro i g hi1 hi2 g1 g2 g3 hm_16
      refine g_iload_n F 2 rfl dX5_remove_16 ?_
      refine g_aload_n F 0 rfl dX5_remove_17 ?_
      refine g_get F 5 0 1 inX5 rfl rfl (by decide) tw_fl_X5_15 rfl dX5_remove_18 ?_
      refine n_icmp_ge F 44 dX5_remove_21 (by decide) (by omega) (by omega) (fun c_21 => ?_) (fun c_21 => ?_)
      · exact R g _ _ dX5_remove_44 (mb_del hb hi0 hs1 hs2 hs3 g1 (fun j h1 h2 => g2 j h1 (by omega)))
      · refine g_aload_n F 0 rfl dX5_remove_24 ?_
        refine g_get F 5 0 0 inX5 rfl rfl (by decide) tw_fl_X5_9 rfl dX5_remove_25 ?_
        refine g_iload_n F 2 rfl dX5_remove_28 ?_
        refine g_aload_n F 0 rfl dX5_remove_29 ?_
        refine g_get F 5 0 0 inX5 rfl rfl (by decide) tw_fl_X5_9 rfl dX5_remove_30 ?_
        refine g_iload_n F 2 rfl dX5_remove_33 ?_
        refine g_iconst F (nI 1) (by decide) dX5_remove_34 ?_
        refine n_add F dX5_remove_35 ?_
        refine g_iald F 1 rfl (by omega) (by decide) dX5_remove_36 ?_
        refine g_iast F 1 [ob m 5 [.ref a, .int (nI k)], ia E a 60 (upd g i (g (i + 1)))] rfl (by omega) (by decide) rfl dX5_remove_37 ?_
        refine g_iinc F (nI (i + 1)) 2 2 [(0, .ref m), (1, .int (nI (b i0))), (2, .int (nI (i + 1)))] [1, 2, 0] dX5_remove_38 rfl (n_inc i) (by decide) rfl ?_
        refine g_goto F 16 dX5_remove_41 (by decide) ?_
        exact ih_16 (i + 1) (upd g i (g (i + 1))) (by omega) (by omega) (fun j hj => (pk_un (by omega)).trans (g1 j hj)) (fun j h1 h2 => by
            by_cases c : j = i
            · subst c; exact pk_us.trans (g3 (j + 1) (by omega))
            · exact (pk_un c).trans (g2 j h1 (by omega))) (fun j hj => (pk_un (by omega)).trans (g3 j (by omega))) (by omega)
  exact lp_16 _ s_12 f (by omega) (by omega) (fun _ _ => rfl) (fun j h1 h2 => absurd h1 (by omega)) (fun _ _ => rfl) (Nat.lt_succ_self _)
