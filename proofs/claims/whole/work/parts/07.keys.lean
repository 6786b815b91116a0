/-- a rising row of k numbers below B -/
def SQ (B : Nat) (f : Nat → Int32) (k : Nat) (b : Nat → Nat) : Prop := k ≤ 60 ∧ (∀ i, i < k → f i = nI (b i) ∧ b i < B) ∧ ∀ i j, i < j → j < k → b i < b j
theorem sq_le {B : Nat} {f : Nat → Int32} {k : Nat} {b : Nat → Nat} (h : SQ B f k b) {i j : Nat} (hij : i ≤ j) (hj : j < k) : b i ≤ b j := by
  rcases Nat.lt_or_ge i j with q | q
  · exact Nat.le_of_lt (h.2.2 i j q hj)
  · rw [show i = j by omega]; exact Nat.le_refl _
theorem sq_ins {B : Nat} {f g : Nat → Int32} {k s t : Nat} {b : Nat → Nat} (hB : B ≤ 2 ^ 31) (hk : k < 60) (h : SQ B f k b) (hn : ∀ i, i < k → b i ≠ t) (ht : t < B) (hs : s ≤ k) (h2 : ∀ j, j < s → f j < nI t) (h3 : s = k ∨ nI t ≤ f s) (g1 : ∀ j, j < s → g j = f j) (g2 : ∀ j, s < j → j ≤ k → g j = f (j - 1)) :
    ∃ b2, SQ B (upd g s (nI t)) (k + 1) b2 ∧ ∀ q, (∃ i, i < k + 1 ∧ b2 i = q) ↔ (q = t ∨ ∃ i, i < k ∧ b i = q) := by
  have lo : ∀ j, j < s → b j < t := by
    intro j hj
    have z := h2 j hj
    rw [(h.2.1 j (by omega)).1] at z
    exact (nI_ltI (by have := (h.2.1 j (by omega)).2; omega) (by omega)).mp z
  have hi : ∀ j, s ≤ j → j < k → t < b j := by
    intro j hj hjk
    rcases h3 with rfl | z
    · omega
    · rw [(h.2.1 s (by omega)).1] at z
      have z2 := (nI_leI (by omega) (by have := (h.2.1 s (by omega)).2; omega)).mp z
      have z3 := sq_le h hj hjk
      have z4 := hn s (by omega)
      omega
  refine ⟨fun j => if j < s then b j else if j = s then t else b (j - 1), ⟨by omega, ?_, ?_⟩, ?_⟩
  · intro i hik
    by_cases c1 : i < s
    · simp only [c1, if_true]
      rw [pk_un (by omega), g1 i c1]
      exact h.2.1 i (by omega)
    · by_cases c2 : i = s
      · subst c2
        simp only [Nat.lt_irrefl, if_false, if_true]
        exact ⟨pk_us, ht⟩
      · simp only [c1, c2, if_false]
        rw [pk_un c2, g2 i (by omega) (by omega)]
        exact h.2.1 (i - 1) (by omega)
  · intro i j hij hjk
    simp only
    by_cases c1 : j < s
    · rw [if_pos (by omega), if_pos c1]
      exact h.2.2 i j hij (by omega)
    · by_cases c2 : j = s
      · rw [if_pos (by omega), if_neg c1, if_pos c2]
        exact lo i (by omega)
      · rw [if_neg c1, if_neg c2]
        by_cases c3 : i < s
        · rw [if_pos c3]
          exact Nat.lt_trans (lo i c3) (hi (j - 1) (by omega) (by omega))
        · rw [if_neg c3]
          by_cases c4 : i = s
          · rw [if_pos c4]
            exact hi (j - 1) (by omega) (by omega)
          · rw [if_neg c4]
            exact h.2.2 (i - 1) (j - 1) (by omega) (by omega)
  · intro q
    constructor
    · rintro ⟨i, hik, e⟩
      simp only at e
      by_cases c1 : i < s
      · rw [if_pos c1] at e
        exact Or.inr ⟨i, by omega, e⟩
      · rw [if_neg c1] at e
        by_cases c2 : i = s
        · rw [if_pos c2] at e
          exact Or.inl e.symm
        · rw [if_neg c2] at e
          exact Or.inr ⟨i - 1, by omega, e⟩
    · rintro (rfl | ⟨i, hik, e⟩)
      · exact ⟨s, by omega, by simp⟩
      · by_cases c1 : i < s
        · exact ⟨i, by omega, by simp only [c1, if_true]; exact e⟩
        · refine ⟨i + 1, by omega, ?_⟩
          simp only
          rw [if_neg (by omega), if_neg (by omega)]
          exact e

set_option maxHeartbeats 4000000 in
set_option maxRecDepth 100000 in
theorem c_X4_size (E : Ev) (m : Nat) (a : Nat) (f : Nat → Int32) (k : Nat)  : RDi E yX4_size (wq yX4_size cX4_size 1 (some .int)) (rmk 0 0) [.ref m] [ob m 4 [.ref a, .int (nI k)], ia E a 60 f] (nI k) := by
  refine CTi.of (by decide) (Nat.le_of_ble_eq_true rfl) (fun X F R => ?_)
  refine g_lv [0] [(0, .ref m)] rfl ?_
  refine g_aload_n F 0 rfl dX4_size_0 ?_
  refine g_get F 4 0 1 inX4 rfl rfl (by decide) tw_fl_X4_15 rfl dX4_size_1 ?_
  exact R _ (()) _ _ dX4_size_4 (rfl)

set_option maxHeartbeats 4000000 in
set_option maxRecDepth 100000 in
theorem c_X4_at (E : Ev) (m : Nat) (a : Nat) (f : Nat → Int32) (k : Nat) (b : Nat → Nat) (j : Nat) (hb : ∀ i, i < k → f i = nI (b i)) (hj : j < k) (hk : k ≤ 60) : RDi E yX4_at (wq yX4_at cX4_at 2 (some .int)) (rmk 0 0) [.ref m, .int (nI j)] [ob m 4 [.ref a, .int (nI k)], ia E a 60 f] (nI (b j)) := by
  refine CTi.of (by decide) (Nat.le_of_ble_eq_true rfl) (fun X F R => ?_)
  refine g_lv [0, 1] [(0, .ref m), (1, .int (nI j))] rfl ?_
  refine g_aload_n F 0 rfl dX4_at_0 ?_
  refine g_get F 4 0 0 inX4 rfl rfl (by decide) tw_fl_X4_9 rfl dX4_at_1 ?_
  refine g_iload_n F 1 rfl dX4_at_4 ?_
  refine g_iald F 1 rfl (by omega) (by decide) dX4_at_5 ?_
  refine g_top (nI (b j)) (hb j hj) ?_
  exact R _ (()) _ _ dX4_at_6 (rfl)

set_option maxHeartbeats 4000000 in
set_option maxRecDepth 100000 in
theorem c_X4_clear (E : Ev) (m : Nat) (a : Nat) (f : Nat → Int32) (x : Int32)  : CTv E yX4_clear (wq yX4_clear cX4_clear 1 none) (rmk 0 0) [.ref m] [ob m 4 [.ref a, .int x], ia E a 60 f] (fun (u : Unit) => True) (fun (u : Unit) => [ob m 4 [.ref a, .int (nI 0)], ia E a 60 f]) := by
  refine CTv.of (by decide) (Nat.le_of_ble_eq_true rfl) (fun X F R => ?_)
  refine g_lv [0] [(0, .ref m)] rfl ?_
  refine g_aload_n F 0 rfl dX4_clear_0 ?_
  refine g_iconst F (nI 0) (by decide) dX4_clear_1 ?_
  refine g_put F 4 0 1 [ob m 4 [.ref a, .int (nI 0)], ia E a 60 f] inX4 tyX4_ok nmX4 rfl rfl (by decide) tw_fl_X4_15 rfl rfl rfl rfl (Nat.le_of_ble_eq_true rfl) rfl dX4_clear_2 ?_
  exact R (()) _ _ dX4_clear_5 (trivial)

set_option maxHeartbeats 4000000 in
set_option maxRecDepth 100000 in
theorem c_X4_insert (E : Ev) (m : Nat) (a : Nat) (f : Nat → Int32) (k : Nat) (B : Nat) (b : Nat → Nat) (t : Nat) (hB : B ≤ 2 ^ 31) (hk : k < 60) (hb : SQ B f k b) (hn : ∀ i, i < k → b i ≠ t) (ht : t < B) : CTv E yX4_insert (wq yX4_insert cX4_insert 3 none) (rmk 0 0) [.ref m, .int (nI t)] [ob m 4 [.ref a, .int (nI k)], ia E a 60 f] (fun (u : (Nat → Int32)) => ∃ b2, SQ B u (k + 1) b2 ∧ ∀ q, (∃ i, i < k + 1 ∧ b2 i = q) ↔ (q = t ∨ ∃ i, i < k ∧ b i = q)) (fun (u : (Nat → Int32)) => [ob m 4 [.ref a, .int (nI (k + 1))], ia E a 60 u]) := by
  refine CTv.of (by decide) (Nat.le_of_ble_eq_true rfl) (fun X F R => ?_)
  refine g_lv [0, 1] [(0, .ref m), (1, .int (nI t))] rfl ?_
  refine g_aload_n F 0 rfl dX4_insert_0 ?_
  refine g_get F 4 0 1 inX4 rfl rfl (by decide) tw_fl_X4_15 rfl dX4_insert_1 ?_
  refine g_bipush F (nI 60) (by decide) dX4_insert_4 ?_
  refine n_icmp_lt F 10 dX4_insert_6 (by decide) (by omega) (by omega) (fun c_6 => ?_) (fun c_6 => absurd c_6 (by omega))
  refine g_aload_n F 0 rfl dX4_insert_10 ?_
  refine g_get F 4 0 1 inX4 rfl rfl (by decide) tw_fl_X4_15 rfl dX4_insert_11 ?_
  refine g_istore_n F 2 [(0, .ref m), (1, .int (nI t)), (2, .int (nI k))] [1, 2, 0] dX4_insert_14 rfl (by decide) rfl ?_
  have lp_15 : ∀ (n_15 : Nat) (i : Nat) (g : Nat → Int32), (i ≤ k) → (∀ j, j < i → g j = f j) → (∀ j, i < j → j ≤ k → g j = f (j - 1)) → (i = k ∨ nI t ≤ f i) → i < n_15 → GW E X 0 0 [ob m 4 [.ref a, .int (nI k)], ia E a 60 g] [(0, .ref m), (1, .int (nI t)), (2, .int (nI i))] 15 [] := by
    intro n_15
    induction n_15 with
    | zero => intro i g hi2 g1 g2 hup hm_15; exact absurd hm_15 (Nat.not_lt_zero _)
    | succ n_15 ih_15 =>
      intro i g hi2 g1 g2 hup hm_15
      refine g_iload_n F 2 rfl dX4_insert_15 ?_
      refine n_if_le F 51 dX4_insert_16 (by decide) (by omega) (fun c_16 => ?_) (fun c_16 => ?_)
      · refine g_aload_n F 0 rfl dX4_insert_51 ?_
        refine g_get F 4 0 0 inX4 rfl rfl (by decide) tw_fl_X4_9 rfl dX4_insert_52 ?_
        refine g_iload_n F 2 rfl dX4_insert_55 ?_
        refine g_iload_n F 1 rfl dX4_insert_56 ?_
        refine g_iast F 1 [ob m 4 [.ref a, .int (nI k)], ia E a 60 (upd g i (nI t))] rfl (by omega) (by decide) rfl dX4_insert_57 ?_
        refine g_aload_n F 0 rfl dX4_insert_58 ?_
        refine g_dup F rfl dX4_insert_59 ?_
        refine g_get F 4 0 1 inX4 rfl rfl (by decide) tw_fl_X4_15 rfl dX4_insert_60 ?_
        refine g_iconst F (nI 1) (by decide) dX4_insert_63 ?_
        refine n_add F dX4_insert_64 ?_
        refine g_put F 4 0 1 [ob m 4 [.ref a, .int (nI (k + 1))], ia E a 60 (upd g i (nI t))] inX4 tyX4_ok nmX4 rfl rfl (by decide) tw_fl_X4_15 rfl rfl rfl rfl (Nat.le_of_ble_eq_true rfl) rfl dX4_insert_65 ?_
        exact R (upd g i (nI t)) _ _ dX4_insert_68 (sq_ins hB hk hb hn ht hi2 (fun j hj => absurd hj (by omega)) (hup) (fun j hj => g1 j (by omega)) (fun j h1 h2 => g2 j (by omega) h2))
      · obtain ⟨z, rfl⟩ : ∃ z, i = z + 1 := ⟨i - 1, by omega⟩
        refine g_aload_n F 0 rfl dX4_insert_19 ?_
        refine g_get F 4 0 0 inX4 rfl rfl (by decide) tw_fl_X4_9 rfl dX4_insert_20 ?_
        refine g_iload_n F 2 rfl dX4_insert_23 ?_
        refine g_iconst F (nI 1) (by decide) dX4_insert_24 ?_
        refine n_sub F (by omega) dX4_insert_25 ?_
        refine g_top (nI z) (rfl) ?_
        refine g_iald F 1 rfl (by omega) (by decide) dX4_insert_26 ?_
        refine g_iload_n F 1 rfl dX4_insert_27 ?_
        refine g_icmp_le F 51 dX4_insert_28 (by decide) (fun c_28 => ?_) (fun c_28 => ?_)
        · refine g_aload_n F 0 rfl dX4_insert_51 ?_
          refine g_get F 4 0 0 inX4 rfl rfl (by decide) tw_fl_X4_9 rfl dX4_insert_52 ?_
          refine g_iload_n F 2 rfl dX4_insert_55 ?_
          refine g_iload_n F 1 rfl dX4_insert_56 ?_
          refine g_iast F 1 [ob m 4 [.ref a, .int (nI k)], ia E a 60 (upd g (z + 1) (nI t))] rfl (by omega) (by decide) rfl dX4_insert_57 ?_
          refine g_aload_n F 0 rfl dX4_insert_58 ?_
          refine g_dup F rfl dX4_insert_59 ?_
          refine g_get F 4 0 1 inX4 rfl rfl (by decide) tw_fl_X4_15 rfl dX4_insert_60 ?_
          refine g_iconst F (nI 1) (by decide) dX4_insert_63 ?_
          refine n_add F dX4_insert_64 ?_
          refine g_put F 4 0 1 [ob m 4 [.ref a, .int (nI (k + 1))], ia E a 60 (upd g (z + 1) (nI t))] inX4 tyX4_ok nmX4 rfl rfl (by decide) tw_fl_X4_15 rfl rfl rfl rfl (Nat.le_of_ble_eq_true rfl) rfl dX4_insert_65 ?_
          exact R (upd g (z + 1) (nI t)) _ _ dX4_insert_68 (sq_ins hB hk hb hn ht hi2 (fun j hj => by
          have e1 := (hb.2.1 j (by omega)).1
          have e2 := (hb.2.1 z (by omega)).1
          have l2 := (hb.2.1 z (by omega)).2
          have e3 := g1 z (by omega)
          have e4 := sq_le hb (show j ≤ z by omega) (show z < k by omega)
          rw [e3, e2] at c_28
          have e5 := (nI_leI (by omega) (by omega)).mp c_28
          have e6 := hn z (by omega)
          rw [e1]
          exact (nI_ltI (by omega) (by omega)).mpr (by omega)) (hup) (fun j hj => g1 j (by omega)) (fun j h1 h2 => g2 j (by omega) h2))
        · refine g_aload_n F 0 rfl dX4_insert_31 ?_
          refine g_get F 4 0 0 inX4 rfl rfl (by decide) tw_fl_X4_9 rfl dX4_insert_32 ?_
          refine g_iload_n F 2 rfl dX4_insert_35 ?_
          refine g_aload_n F 0 rfl dX4_insert_36 ?_
          refine g_get F 4 0 0 inX4 rfl rfl (by decide) tw_fl_X4_9 rfl dX4_insert_37 ?_
          refine g_iload_n F 2 rfl dX4_insert_40 ?_
          refine g_iconst F (nI 1) (by decide) dX4_insert_41 ?_
          refine n_sub F (by omega) dX4_insert_42 ?_
          refine g_top (nI z) (rfl) ?_
          refine g_iald F 1 rfl (by omega) (by decide) dX4_insert_43 ?_
          refine g_iast F 1 [ob m 4 [.ref a, .int (nI k)], ia E a 60 (upd g (z + 1) (g z))] rfl (by omega) (by decide) rfl dX4_insert_44 ?_
          refine g_iinc F (nI z) 2 2 [(0, .ref m), (1, .int (nI t)), (2, .int (nI z))] [1, 2, 0] dX4_insert_45 rfl (n_dec z) (by decide) rfl ?_
          refine g_goto F 15 dX4_insert_48 (by decide) ?_
          exact ih_15 z (upd g (z + 1) (g z)) (by omega) (fun j hj => (pk_un (by omega)).trans (g1 j (by omega))) (fun j h1 h2 => by
            by_cases c : j = z + 1
            · subst c; exact pk_us.trans (g1 z (by omega))
            · exact (pk_un c).trans (g2 j (by omega) h2)) (Or.inr (by rw [← g1 z (by omega)]; exact Int32.le_of_lt (Int32.not_le.mp c_28))) (by omega)
  exact lp_15 _ k f (by omega) (fun _ _ => rfl) (fun j h1 h2 => absurd h1 (by omega)) (Or.inl rfl) (Nat.lt_succ_self _)

set_option maxHeartbeats 4000000 in
set_option maxRecDepth 100000 in
theorem c_X7_size (E : Ev) (m : Nat) (a : Nat) (c : Nat) (f : Nat → Int32) (g : Nat → Int32) (k : Nat)  : RDi E yX7_size (wq yX7_size cX7_size 1 (some .int)) (rmk 0 0) [.ref m] [ob m 7 [.ref a, .ref c, .int (nI k)], ia E a 60 f, ia E c 60 g] (nI k) := by
  refine CTi.of (by decide) (Nat.le_of_ble_eq_true rfl) (fun X F R => ?_)
  refine g_lv [0] [(0, .ref m)] rfl ?_
  refine g_aload_n F 0 rfl dX7_size_0 ?_
  refine g_get F 7 0 2 inX7 rfl rfl (by decide) tw_fl_X7_18 rfl dX7_size_1 ?_
  exact R _ (()) _ _ dX7_size_4 (rfl)

set_option maxHeartbeats 4000000 in
set_option maxRecDepth 100000 in
theorem c_X7_thingAt (E : Ev) (m : Nat) (a : Nat) (c : Nat) (f : Nat → Int32) (g : Nat → Int32) (k : Nat) (j : Nat) (hj : j < 60) : RDi E yX7_thingAt (wq yX7_thingAt cX7_thingAt 2 (some .int)) (rmk 0 0) [.ref m, .int (nI j)] [ob m 7 [.ref a, .ref c, .int (nI k)], ia E a 60 f, ia E c 60 g] (f j) := by
  refine CTi.of (by decide) (Nat.le_of_ble_eq_true rfl) (fun X F R => ?_)
  refine g_lv [0, 1] [(0, .ref m), (1, .int (nI j))] rfl ?_
  refine g_aload_n F 0 rfl dX7_thingAt_0 ?_
  refine g_get F 7 0 0 inX7 rfl rfl (by decide) tw_fl_X7_9 rfl dX7_thingAt_1 ?_
  refine g_iload_n F 1 rfl dX7_thingAt_4 ?_
  refine g_iald F 1 rfl (by omega) (by decide) dX7_thingAt_5 ?_
  exact R _ (()) _ _ dX7_thingAt_6 (rfl)

set_option maxHeartbeats 4000000 in
set_option maxRecDepth 100000 in
theorem c_X7_distanceAt (E : Ev) (m : Nat) (a : Nat) (c : Nat) (f : Nat → Int32) (g : Nat → Int32) (k : Nat) (j : Nat) (hj : j < 60) : RDi E yX7_distanceAt (wq yX7_distanceAt cX7_distanceAt 2 (some .int)) (rmk 0 0) [.ref m, .int (nI j)] [ob m 7 [.ref a, .ref c, .int (nI k)], ia E a 60 f, ia E c 60 g] (g j) := by
  refine CTi.of (by decide) (Nat.le_of_ble_eq_true rfl) (fun X F R => ?_)
  refine g_lv [0, 1] [(0, .ref m), (1, .int (nI j))] rfl ?_
  refine g_aload_n F 0 rfl dX7_distanceAt_0 ?_
  refine g_get F 7 0 1 inX7 rfl rfl (by decide) tw_fl_X7_15 rfl dX7_distanceAt_1 ?_
  refine g_iload_n F 1 rfl dX7_distanceAt_4 ?_
  refine g_iald F 2 rfl (by omega) (by decide) dX7_distanceAt_5 ?_
  exact R _ (()) _ _ dX7_distanceAt_6 (rfl)

set_option maxHeartbeats 4000000 in
set_option maxRecDepth 100000 in
theorem c_X7_clear (E : Ev) (m : Nat) (a : Nat) (c : Nat) (f : Nat → Int32) (g : Nat → Int32) (k : Nat)  : CTv E yX7_clear (wq yX7_clear cX7_clear 1 none) (rmk 0 0) [.ref m] [ob m 7 [.ref a, .ref c, .int (nI k)], ia E a 60 f, ia E c 60 g] (fun (u : Unit) => True) (fun (u : Unit) => [ob m 7 [.ref a, .ref c, .int (nI 0)], ia E a 60 f, ia E c 60 g]) := by
  refine CTv.of (by decide) (Nat.le_of_ble_eq_true rfl) (fun X F R => ?_)
  refine g_lv [0] [(0, .ref m)] rfl ?_
  refine g_aload_n F 0 rfl dX7_clear_0 ?_
  refine g_iconst F (nI 0) (by decide) dX7_clear_1 ?_
  refine g_put F 7 0 2 [ob m 7 [.ref a, .ref c, .int (nI 0)], ia E a 60 f, ia E c 60 g] inX7 tyX7_ok nmX7 rfl rfl (by decide) tw_fl_X7_18 rfl rfl rfl rfl (Nat.le_of_ble_eq_true rfl) rfl dX7_clear_2 ?_
  exact R (()) _ _ dX7_clear_5 (trivial)

set_option maxHeartbeats 4000000 in
set_option maxRecDepth 100000 in
theorem c_X7_append (E : Ev) (m : Nat) (a : Nat) (c : Nat) (f : Nat → Int32) (g : Nat → Int32) (k : Nat) (x : Int32) (y : Int32) (hk : k < 60) : CTv E yX7_append (wq yX7_append cX7_append 3 none) (rmk 0 0) [.ref m, .int x, .int y] [ob m 7 [.ref a, .ref c, .int (nI k)], ia E a 60 f, ia E c 60 g] (fun (u : Unit) => True) (fun (u : Unit) => [ob m 7 [.ref a, .ref c, .int (nI (k + 1))], ia E a 60 (upd f k x), ia E c 60 (upd g k y)]) := by
  refine CTv.of (by decide) (Nat.le_of_ble_eq_true rfl) (fun X F R => ?_)
  refine g_lv [0, 1, 2] [(0, .ref m), (1, .int x), (2, .int y)] rfl ?_
  refine g_aload_n F 0 rfl dX7_append_0 ?_
  refine g_get F 7 0 2 inX7 rfl rfl (by decide) tw_fl_X7_18 rfl dX7_append_1 ?_
  refine g_bipush F (nI 60) (by decide) dX7_append_4 ?_
  refine n_icmp_lt F 10 dX7_append_6 (by decide) (by omega) (by omega) (fun c_6 => ?_) (fun c_6 => absurd c_6 (by omega))
  refine g_aload_n F 0 rfl dX7_append_10 ?_
  refine g_get F 7 0 0 inX7 rfl rfl (by decide) tw_fl_X7_9 rfl dX7_append_11 ?_
  refine g_aload_n F 0 rfl dX7_append_14 ?_
  refine g_get F 7 0 2 inX7 rfl rfl (by decide) tw_fl_X7_18 rfl dX7_append_15 ?_
  refine g_iload_n F 1 rfl dX7_append_18 ?_
  refine g_iast F 1 [ob m 7 [.ref a, .ref c, .int (nI k)], ia E a 60 (upd f k x), ia E c 60 g] rfl (by omega) (by decide) rfl dX7_append_19 ?_
  refine g_aload_n F 0 rfl dX7_append_20 ?_
  refine g_get F 7 0 1 inX7 rfl rfl (by decide) tw_fl_X7_15 rfl dX7_append_21 ?_
  refine g_aload_n F 0 rfl dX7_append_24 ?_
  refine g_get F 7 0 2 inX7 rfl rfl (by decide) tw_fl_X7_18 rfl dX7_append_25 ?_
  refine g_iload_n F 2 rfl dX7_append_28 ?_
  refine g_iast F 2 [ob m 7 [.ref a, .ref c, .int (nI k)], ia E a 60 (upd f k x), ia E c 60 (upd g k y)] rfl (by omega) (by decide) rfl dX7_append_29 ?_
  refine g_aload_n F 0 rfl dX7_append_30 ?_
  refine g_dup F rfl dX7_append_31 ?_
  refine g_get F 7 0 2 inX7 rfl rfl (by decide) tw_fl_X7_18 rfl dX7_append_32 ?_
  refine g_iconst F (nI 1) (by decide) dX7_append_35 ?_
  refine n_add F dX7_append_36 ?_
  refine g_put F 7 0 2 [ob m 7 [.ref a, .ref c, .int (nI (k + 1))], ia E a 60 (upd f k x), ia E c 60 (upd g k y)] inX7 tyX7_ok nmX7 rfl rfl (by decide) tw_fl_X7_18 rfl rfl rfl rfl (Nat.le_of_ble_eq_true rfl) rfl dX7_append_37 ?_
  exact R (()) _ _ dX7_append_40 (trivial)
