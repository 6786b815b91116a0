/-- the values' range -/
def VR (pl : Nat → Int32) : Prop := ∀ j, j < 480 → -1000 ≤ (pl j).toInt ∧ (pl j).toInt ≤ 1000
/-- the rows' lengths -/
def LR (ln : Nat → Int32) (L : Nat → Nat) : Prop := ∀ t, t < 60 → ln t = nI (L t) ∧ L t ≤ 8
def dfN (pl : Nat → Int32) (a b i : Nat) : Nat := ((pl (a * 8 + i)).toInt - (pl (b * 8 + i)).toInt).natAbs
theorem ab_dif {x y : Int32} (hx : -1000 ≤ x.toInt ∧ x.toInt ≤ 1000) (hy : -1000 ≤ y.toInt ∧ y.toInt ≤ 1000) : (if 0 ≤ x - y then x - y else 0 - (x - y)) = nI (x.toInt - y.toInt).natAbs := by
  have h : (x - y).toInt = x.toInt - y.toInt := by
    rw [Int32.toInt_sub]
    exact Int.bmod_eq_of_le (by omega) (by omega)
  apply Int32.toInt_inj.mp
  rw [nI_toInt (by omega)]
  split
  · next c =>
    rw [Int32.le_iff_toInt_le, Int32.toInt_zero, h] at c
    rw [h]; omega
  · next c =>
    rw [Int32.le_iff_toInt_le, Int32.toInt_zero, h] at c
    rw [Int32.toInt_sub, h, Int32.toInt_zero]
    rw [Int.bmod_eq_of_le (by omega) (by omega)]
    omega
theorem df_le {pl : Nat → Int32} {a b i : Nat} (h : VR pl) (ha : a < 60) (hb : b < 60) (hi : i < 8) : dfN pl a b i ≤ 2000 := by
  have h1 := h (a * 8 + i) (by omega)
  have h2 := h (b * 8 + i) (by omega)
  unfold dfN
  omega
theorem df_sym (pl : Nat → Int32) (a b i : Nat) : dfN pl a b i = dfN pl b a i := by unfold dfN; omega
def unl (pl : Nat → Int32) (a b : Nat) : Nat → Nat
  | 0 => 0
  | i + 1 => unl pl a b i + (if dfN pl a b i = 0 then 0 else 1)
def smd (pl : Nat → Int32) (a b : Nat) : Nat → Nat
  | 0 => 0
  | i + 1 => smd pl a b i + dfN pl a b i
def grd (pl : Nat → Int32) (a b : Nat) : Nat → Nat
  | 0 => 0
  | i + 1 => Nat.max (grd pl a b i) (dfN pl a b i)
theorem grd_le {pl : Nat → Int32} {a b : Nat} (h : VR pl) (ha : a < 60) (hb : b < 60) : ∀ i, i ≤ 8 → grd pl a b i ≤ 2000 := by
  intro i
  induction i with
  | zero => intro _; exact Nat.zero_le _
  | succ i ih =>
    intro hi
    exact Nat.max_le.mpr ⟨ih (by omega), df_le h ha hb (by omega)⟩
theorem smd_le {pl : Nat → Int32} {a b : Nat} (h : VR pl) (ha : a < 60) (hb : b < 60) : ∀ i, i ≤ 8 → smd pl a b i ≤ 2000 * i := by
  intro i
  induction i with
  | zero => intro _; exact Nat.zero_le _
  | succ i ih =>
    intro hi
    have h1 := ih (by omega)
    have h2 := df_le (i := i) h ha hb (by omega)
    show smd pl a b i + dfN pl a b i ≤ _
    omega
theorem unl_le (pl : Nat → Int32) (a b : Nat) : ∀ i, unl pl a b i ≤ i := by
  intro i
  induction i with
  | zero => exact Nat.zero_le _
  | succ i ih =>
    show unl pl a b i + _ ≤ _
    split <;> omega
/-- edits: a's first i values against b's first j -/
def edS (pl : Nat → Int32) (a b i : Nat) (prev : Nat → Nat) : Nat → Nat
  | 0 => i + 1
  | j + 1 => Nat.min (prev j + (if pl (b * 8 + j) = pl (a * 8 + i) then 0 else 1)) (1 + Nat.min (edS pl a b i prev j) (prev (j + 1)))
def edN (pl : Nat → Int32) (a b : Nat) : Nat → Nat → Nat
  | 0 => fun j => j
  | i + 1 => edS pl a b i (edN pl a b i)
theorem ed_le (pl : Nat → Int32) (a b : Nat) : ∀ i j, edN pl a b i j ≤ i + j := by
  intro i
  induction i with
  | zero => intro j; show j ≤ _; omega
  | succ i ih =>
    intro j
    induction j with
    | zero => show i + 1 ≤ _; omega
    | succ j jh =>
      show Nat.min _ (1 + Nat.min (edN pl a b (i + 1) j) (edN pl a b i (j + 1))) ≤ _
      have h1 := ih (j + 1)
      have h2 : Nat.min (edN pl a b (i + 1) j) (edN pl a b i (j + 1)) ≤ edN pl a b i (j + 1) := Nat.min_le_right _ _
      exact Nat.le_trans (Nat.min_le_right _ _) (by omega)
theorem ed_eq {pl : Nat → Int32} {a b i j : Nat} (h : pl (b * 8 + j) = pl (a * 8 + i)) : Nat.min (edN pl a b i j) (1 + Nat.min (edN pl a b (i + 1) j) (edN pl a b i (j + 1))) = edN pl a b (i + 1) (j + 1) := by
  show _ = Nat.min (edN pl a b i j + _) (1 + Nat.min (edN pl a b (i + 1) j) (edN pl a b i (j + 1)))
  rw [if_pos h]
  rfl
theorem ed_ne {pl : Nat → Int32} {a b i j : Nat} (h : ¬ pl (b * 8 + j) = pl (a * 8 + i)) : Nat.min (edN pl a b i j + 1) (1 + Nat.min (edN pl a b (i + 1) j) (edN pl a b i (j + 1))) = edN pl a b (i + 1) (j + 1) := by
  show _ = Nat.min (edN pl a b i j + _) (1 + Nat.min (edN pl a b (i + 1) j) (edN pl a b i (j + 1)))
  rw [if_neg h]
theorem ed_b {pl : Nat → Int32} {a b i j : Nat} (hi : i ≤ 8) (hj : j ≤ 8) : 1 + Nat.min (edN pl a b (i + 1) j) (edN pl a b i (j + 1)) < 2 ^ 31 := by
  have h1 := ed_le pl a b i (j + 1)
  have h2 : Nat.min (edN pl a b (i + 1) j) (edN pl a b i (j + 1)) ≤ edN pl a b i (j + 1) := Nat.min_le_right _ _
  omega
/-- v is among the first e values of t -/
def hsb (pl : Nat → Int32) (t : Nat) (v : Int32) : Nat → Bool
  | 0 => false
  | e + 1 => hsb pl t v e || decide (pl (t * 8 + e) = v)
theorem hsb_of {pl : Nat → Int32} {t : Nat} {v : Int32} : ∀ {e i : Nat}, i < e → pl (t * 8 + i) = v → hsb pl t v e = true := by
  intro e
  induction e with
  | zero => intro i h; exact absurd h (Nat.not_lt_zero i)
  | succ e ih =>
    intro i h hv
    show (hsb pl t v e || decide _) = true
    rcases Nat.lt_or_ge i e with q | q
    · rw [ih q hv]; rfl
    · have : i = e := by omega
      subst this
      simp [hv]
theorem hsb_no {pl : Nat → Int32} {t e : Nat} {v : Int32} (h : hsb pl t v e = false) (hv : ¬ pl (t * 8 + e) = v) : hsb pl t v (e + 1) = false := by
  show (hsb pl t v e || decide _) = false
  simp [h, hv]
/-- how many values of a's first i are new there and not in b -/
def msn (pl : Nat → Int32) (L : Nat → Nat) (a b : Nat) : Nat → Nat
  | 0 => 0
  | i + 1 => msn pl L a b i + (if hsb pl a (pl (a * 8 + i)) i = false ∧ hsb pl b (pl (a * 8 + i)) (L b) = false then 1 else 0)
theorem msn_le (pl : Nat → Int32) (L : Nat → Nat) (a b : Nat) : ∀ i, msn pl L a b i ≤ i := by
  intro i
  induction i with
  | zero => exact Nat.zero_le _
  | succ i ih =>
    show msn pl L a b i + _ ≤ _
    split <;> omega
theorem msn_1 {pl : Nat → Int32} {L : Nat → Nat} {a b i : Nat} (h1 : hsb pl a (pl (a * 8 + i)) i = false) (h2 : hsb pl b (pl (a * 8 + i)) (L b) = false) : msn pl L a b (i + 1) = msn pl L a b i + 1 := by
  show msn pl L a b i + _ = _
  rw [if_pos ⟨h1, h2⟩]
theorem msn_0 {pl : Nat → Int32} {L : Nat → Nat} {a b i : Nat} (h : hsb pl a (pl (a * 8 + i)) i = true ∨ hsb pl b (pl (a * 8 + i)) (L b) = true) : msn pl L a b (i + 1) = msn pl L a b i := by
  show msn pl L a b i + _ = _
  rw [if_neg (fun q => by rcases h with z | z <;> simp [z] at q), Nat.add_zero]

set_option maxHeartbeats 4000000 in
set_option maxRecDepth 100000 in
theorem c_X8_size (E : Ev) (ro : Nat) (la : Nat) (pa : Nat) (na : Nat) (ln : Nat → Int32) (pl : Nat → Int32) (li : Nat → Int32) (n : Nat)  : RDi E yX8_size (wq yX8_size cX8_size 1 (some .int)) (rmk 0 0) [.ref ro] [ob ro 8 [.ref la, .ref pa, .ref na, .int (nI n)], ia E la 60 ln, ia E pa 480 pl, ia E na 9 li] (nI n) := by
  refine CTi.of (by decide) (Nat.le_of_ble_eq_true rfl) (fun X F R => ?_)
  refine g_lv [0] [(0, .ref ro)] rfl ?_
  refine g_aload_n F 0 rfl dX8_size_0 ?_
  refine g_get F 8 0 3 inX8 rfl rfl (by decide) tw_fl_X8_21 rfl dX8_size_1 ?_
  exact R _ (()) _ _ dX8_size_4 (rfl)

set_option maxHeartbeats 4000000 in
set_option maxRecDepth 100000 in
theorem c_X8_holds (E : Ev) (ro : Nat) (la : Nat) (pa : Nat) (na : Nat) (ln : Nat → Int32) (pl : Nat → Int32) (li : Nat → Int32) (n : Nat) (x : Int32) (hn : n ≤ 60) : CTi E yX8_holds (wq yX8_holds cX8_holds 2 (some .boolean)) (rmk 0 0) [.ref ro, .int x] [ob ro 8 [.ref la, .ref pa, .ref na, .int (nI n)], ia E la 60 ln, ia E pa 480 pl, ia E na 9 li] (fun (r : Int32) (u : Unit) => (r = 1 ∧ ∃ t, t < n ∧ x = nI t) ∨ (r = 0 ∧ ∀ t, t < n → x ≠ nI t)) (fun (u : Unit) => [ob ro 8 [.ref la, .ref pa, .ref na, .int (nI n)], ia E la 60 ln, ia E pa 480 pl, ia E na 9 li]) := by
  refine CTi.ofZ (by decide) (Nat.le_of_ble_eq_true rfl) (fun X F R => ?_)
  refine g_lv [0, 1] [(0, .ref ro), (1, .int x)] rfl ?_
  refine g_iload_n F 1 rfl dX8_holds_0 ?_
  refine g_if_lt F 16 dX8_holds_1 (by decide) (fun c_1 => ?_) (fun c_1 => ?_)
  · refine g_iconst F (nI 0) (by decide) dX8_holds_16 ?_
    exact R _ (()) _ _ dX8_holds_17 (Or.inl rfl) (Or.inr ⟨rfl, fun t ht e => nI_pos (n := t) (by omega) (by rw [← e]; exact c_1)⟩)
  · refine g_iload_n F 1 rfl dX8_holds_4 ?_
    refine g_aload_n F 0 rfl dX8_holds_5 ?_
    refine g_get F 8 0 3 inX8 rfl rfl (by decide) tw_fl_X8_21 rfl dX8_holds_6 ?_
    refine g_icmp_ge F 16 dX8_holds_9 (by decide) (fun c_9 => ?_) (fun c_9 => ?_)
    · refine g_iconst F (nI 0) (by decide) dX8_holds_16 ?_
      exact R _ (()) _ _ dX8_holds_17 (Or.inl rfl) (Or.inr ⟨rfl, fun t ht e => nI_ge ht (by omega) (by rw [← e]; exact c_9)⟩)
    · refine g_iconst F (nI 1) (by decide) dX8_holds_12 ?_
      refine g_goto F 17 dX8_holds_13 (by decide) ?_
      exact R _ (()) _ _ dX8_holds_17 (Or.inr rfl) (Or.inl ⟨rfl, by
      obtain ⟨j, hj, e, -⟩ := pk_mu c_1 c_9 (by omega)
      exact ⟨j, hj, e⟩⟩)

set_option maxHeartbeats 4000000 in
set_option maxRecDepth 100000 in
theorem c_X8_lengthOf (E : Ev) (ro : Nat) (la : Nat) (pa : Nat) (na : Nat) (ln : Nat → Int32) (pl : Nat → Int32) (li : Nat → Int32) (n : Nat) (L : Nat → Nat) (t : Nat) (hL : LR ln L) (ht : t < 60) : RDi E yX8_lengthOf (wq yX8_lengthOf cX8_lengthOf 2 (some .int)) (rmk 0 0) [.ref ro, .int (nI t)] [ob ro 8 [.ref la, .ref pa, .ref na, .int (nI n)], ia E la 60 ln, ia E pa 480 pl, ia E na 9 li] (nI (L t)) := by
  refine CTi.of (by decide) (Nat.le_of_ble_eq_true rfl) (fun X F R => ?_)
  refine g_lv [0, 1] [(0, .ref ro), (1, .int (nI t))] rfl ?_
  refine g_aload_n F 0 rfl dX8_lengthOf_0 ?_
  refine g_get F 8 0 0 inX8 rfl rfl (by decide) tw_fl_X8_9 rfl dX8_lengthOf_1 ?_
  refine g_iload_n F 1 rfl dX8_lengthOf_4 ?_
  refine g_iald F 1 rfl (by omega) (by decide) dX8_lengthOf_5 ?_
  refine g_top (nI (L t)) ((hL t ht).1) ?_
  exact R _ (()) _ _ dX8_lengthOf_6 (rfl)

set_option maxHeartbeats 4000000 in
set_option maxRecDepth 100000 in
theorem c_X8_append (E : Ev) (ro : Nat) (la : Nat) (pa : Nat) (na : Nat) (ln : Nat → Int32) (pl : Nat → Int32) (li : Nat → Int32) (n : Nat) (x : Int32) (hn : n < 60) : CTi E yX8_append (wq yX8_append cX8_append 2 (some .int)) (rmk 0 0) [.ref ro, .int x] [ob ro 8 [.ref la, .ref pa, .ref na, .int (nI n)], ia E la 60 ln, ia E pa 480 pl, ia E na 9 li] (fun (r : Int32) (u : Unit) => r = nI n) (fun (u : Unit) => [ob ro 8 [.ref la, .ref pa, .ref na, .int (nI (n + 1))], ia E la 60 (upd ln n x), ia E pa 480 pl, ia E na 9 li]) := by
  refine CTi.of (by decide) (Nat.le_of_ble_eq_true rfl) (fun X F R => ?_)
  refine g_lv [0, 1] [(0, .ref ro), (1, .int x)] rfl ?_
  refine g_aload_n F 0 rfl dX8_append_0 ?_
  refine g_get F 8 0 0 inX8 rfl rfl (by decide) tw_fl_X8_9 rfl dX8_append_1 ?_
  refine g_aload_n F 0 rfl dX8_append_4 ?_
  refine g_get F 8 0 3 inX8 rfl rfl (by decide) tw_fl_X8_21 rfl dX8_append_5 ?_
  refine g_iload_n F 1 rfl dX8_append_8 ?_
  refine g_iast F 1 [ob ro 8 [.ref la, .ref pa, .ref na, .int (nI n)], ia E la 60 (upd ln n x), ia E pa 480 pl, ia E na 9 li] rfl (by omega) (by decide) rfl dX8_append_9 ?_
  refine g_aload_n F 0 rfl dX8_append_10 ?_
  refine g_dup F rfl dX8_append_11 ?_
  refine g_get F 8 0 3 inX8 rfl rfl (by decide) tw_fl_X8_21 rfl dX8_append_12 ?_
  refine g_iconst F (nI 1) (by decide) dX8_append_15 ?_
  refine n_add F dX8_append_16 ?_
  refine g_put F 8 0 3 [ob ro 8 [.ref la, .ref pa, .ref na, .int (nI (n + 1))], ia E la 60 (upd ln n x), ia E pa 480 pl, ia E na 9 li] inX8 tyX8_ok nmX8 rfl rfl (by decide) tw_fl_X8_21 rfl rfl rfl rfl (Nat.le_of_ble_eq_true rfl) rfl dX8_append_17 ?_
  refine g_aload_n F 0 rfl dX8_append_20 ?_
  refine g_get F 8 0 3 inX8 rfl rfl (by decide) tw_fl_X8_21 rfl dX8_append_21 ?_
  refine g_iconst F (nI 1) (by decide) dX8_append_24 ?_
  refine n_sub F (by omega) dX8_append_25 ?_
  refine g_top (nI n) (rfl) ?_
  exact R _ (()) _ _ dX8_append_26 (rfl)

set_option maxHeartbeats 4000000 in
set_option maxRecDepth 100000 in
theorem c_X8_change (E : Ev) (ro : Nat) (la : Nat) (pa : Nat) (na : Nat) (ln : Nat → Int32) (pl : Nat → Int32) (li : Nat → Int32) (n : Nat) (t : Nat) (i : Nat) (x : Int32) (ht : t < 60) (hi : i < 8) : CTv E yX8_change (wq yX8_change cX8_change 4 none) (rmk 0 0) [.ref ro, .int (nI t), .int (nI i), .int x] [ob ro 8 [.ref la, .ref pa, .ref na, .int (nI n)], ia E la 60 ln, ia E pa 480 pl, ia E na 9 li] (fun (u : Unit) => True) (fun (u : Unit) => [ob ro 8 [.ref la, .ref pa, .ref na, .int (nI n)], ia E la 60 ln, ia E pa 480 (upd pl (t * 8 + i) x), ia E na 9 li]) := by
  refine CTv.of (by decide) (Nat.le_of_ble_eq_true rfl) (fun X F R => ?_)
  refine g_lv [0, 1, 2, 3] [(0, .ref ro), (1, .int (nI t)), (2, .int (nI i)), (3, .int x)] rfl ?_
  refine g_aload_n F 0 rfl dX8_change_0 ?_
  refine g_get F 8 0 1 inX8 rfl rfl (by decide) tw_fl_X8_15 rfl dX8_change_1 ?_
  refine g_iload_n F 1 rfl dX8_change_4 ?_
  refine g_bipush F (nI 8) (by decide) dX8_change_5 ?_
  refine n_mul F dX8_change_7 ?_
  refine g_iload_n F 2 rfl dX8_change_8 ?_
  refine n_add F dX8_change_9 ?_
  refine g_iload_n F 3 rfl dX8_change_10 ?_
  refine g_iast F 2 [ob ro 8 [.ref la, .ref pa, .ref na, .int (nI n)], ia E la 60 ln, ia E pa 480 (upd pl ((t * 8) + i) x), ia E na 9 li] rfl (by omega) (by decide) rfl dX8_change_11 ?_
  exact R (()) _ _ dX8_change_12 (trivial)

set_option maxHeartbeats 4000000 in
set_option maxRecDepth 100000 in
theorem c_X8_difference (E : Ev) (ro : Nat) (la : Nat) (pa : Nat) (na : Nat) (ln : Nat → Int32) (pl : Nat → Int32) (li : Nat → Int32) (n : Nat) (a : Nat) (b : Nat) (i : Nat) (hv : VR pl) (ha : a < 60) (hb : b < 60) (hi : i < 8) : RDi E yX8_difference (wq yX8_difference cX8_difference 4 (some .int)) (rmk 1 21) [.ref ro, .int (nI a), .int (nI b), .int (nI i)] [ob ro 8 [.ref la, .ref pa, .ref na, .int (nI n)], ia E la 60 ln, ia E pa 480 pl, ia E na 9 li] (nI (dfN pl a b i)) := by
  refine CTi.of (by decide) (Nat.le_of_ble_eq_true rfl) (fun X F R => ?_)
  refine g_lv [0, 1, 2, 3] [(0, .ref ro), (1, .int (nI a)), (2, .int (nI b)), (3, .int (nI i))] rfl ?_
  refine g_aload_n F 0 rfl dX8_difference_0 ?_
  refine g_get F 8 0 1 inX8 rfl rfl (by decide) tw_fl_X8_15 rfl dX8_difference_1 ?_
  refine g_iload_n F 1 rfl dX8_difference_4 ?_
  refine g_bipush F (nI 8) (by decide) dX8_difference_5 ?_
  refine n_mul F dX8_difference_7 ?_
  refine g_iload_n F 3 rfl dX8_difference_8 ?_
  refine n_add F dX8_difference_9 ?_
  refine g_iald F 2 rfl (by omega) (by decide) dX8_difference_10 ?_
  refine g_aload_n F 0 rfl dX8_difference_11 ?_
  refine g_get F 8 0 1 inX8 rfl rfl (by decide) tw_fl_X8_15 rfl dX8_difference_12 ?_
  refine g_iload_n F 2 rfl dX8_difference_15 ?_
  refine g_bipush F (nI 8) (by decide) dX8_difference_16 ?_
  refine n_mul F dX8_difference_18 ?_
  refine g_iload_n F 3 rfl dX8_difference_19 ?_
  refine n_add F dX8_difference_20 ?_
  refine g_iald F 2 rfl (by omega) (by decide) dX8_difference_21 ?_
  refine g_isub F dX8_difference_22 ?_
  refine g_mabs F tw_ml_X8_42 (by decide) (Nat.le_of_ble_eq_true rfl) (Nat.zero_le _) (Nat.zero_le _) dX8_difference_23 ?_
  refine g_top (nI (dfN pl a b i)) (ab_dif (hv _ (by omega)) (hv _ (by omega))) ?_
  exact R _ (()) _ _ dX8_difference_26 (rfl)

set_option maxHeartbeats 4000000 in
set_option maxRecDepth 100000 in
theorem c_X8_unlikePlaces (E : Ev) (ro : Nat) (la : Nat) (pa : Nat) (na : Nat) (ln : Nat → Int32) (pl : Nat → Int32) (li : Nat → Int32) (n : Nat) (a : Nat) (b : Nat) (hv : VR pl) (ha : a < 60) (hb : b < 60) : RDi E yX8_unlikePlaces (wq yX8_unlikePlaces cX8_unlikePlaces 5 (some .int)) (rmk 2 44) [.ref ro, .int (nI a), .int (nI b)] [ob ro 8 [.ref la, .ref pa, .ref na, .int (nI n)], ia E la 60 ln, ia E pa 480 pl, ia E na 9 li] (nI (unl pl a b 8)) := by
  refine CTi.of (by decide) (Nat.le_of_ble_eq_true rfl) (fun X F R => ?_)
  refine g_lv [0, 1, 2] [(0, .ref ro), (1, .int (nI a)), (2, .int (nI b))] rfl ?_
  refine g_iconst F (nI 0) (by decide) dX8_unlikePlaces_0 ?_
  refine g_istore_n F 3 [(0, .ref ro), (1, .int (nI a)), (2, .int (nI b)), (3, .int (nI 0))] [1, 2, 3, 0] dX8_unlikePlaces_1 rfl (by decide) rfl ?_
  refine g_iconst F (nI 0) (by decide) dX8_unlikePlaces_2 ?_
  refine g_istore F 4 [(0, .ref ro), (1, .int (nI a)), (2, .int (nI b)), (3, .int (nI 0)), (4, .int (nI 0))] [1, 2, 3, 4, 0] dX8_unlikePlaces_3 (by decide) rfl ?_
  have lp_5 : ∀ (n_5 : Nat) (i : Nat), (i ≤ 8) → 8 - i < n_5 → GW E X 0 0 [ob ro 8 [.ref la, .ref pa, .ref na, .int (nI n)], ia E la 60 ln, ia E pa 480 pl, ia E na 9 li] [(0, .ref ro), (1, .int (nI a)), (2, .int (nI b)), (3, .int (nI (unl pl a b i))), (4, .int (nI i))] 5 [] := by
    intro n_5
    induction n_5 with
    | zero => intro i hi hm_5; exact absurd hm_5 (Nat.not_lt_zero _)
    | succ n_5 ih_5 =>
      intro i hi hm_5
      refine g_iload F 4 rfl dX8_unlikePlaces_5 ?_
      refine g_bipush F (nI 8) (by decide) dX8_unlikePlaces_7 ?_
      refine n_icmp_ge F 32 dX8_unlikePlaces_9 (by decide) (by omega) (by omega) (fun c_9 => ?_) (fun c_9 => ?_)
      · refine g_iload_n F 3 rfl dX8_unlikePlaces_32 ?_
        exact R _ (()) _ _ dX8_unlikePlaces_33 (by rw [show i = 8 by omega])
      · refine g_aload_n F 0 rfl dX8_unlikePlaces_12 ?_
        refine g_iload_n F 1 rfl dX8_unlikePlaces_13 ?_
        refine g_iload_n F 2 rfl dX8_unlikePlaces_14 ?_
        refine g_iload F 4 rfl dX8_unlikePlaces_15 ?_
        refine g_rVi F (wr := []) [] (c_X8_difference E ro la pa na ln pl li n a b i (by omega) (by omega) (by omega) (by omega)) (gi_V tw_ml_X8_25 tw_im_X8_difference tw_se_X8_difference tw_in_X8 tw_co_X8_difference) 3 rfl (by decide) ⟨rfl, rfl, by decide, by decide, Nat.zero_le _, Nat.zero_le _⟩ 8 0 rfl rfl [0, 1, 2, 3] [] [0, 1, 2, 3] rfl rfl (by decide) rfl rfl (Nat.le_of_ble_eq_true rfl) dX8_unlikePlaces_17 ?_
        refine n_if_eq F 26 dX8_unlikePlaces_20 (by decide) (by have := df_le (i := i) hv ha hb (by omega); omega) (fun c_20 => ?_) (fun c_20 => ?_)
        · refine g_lv [0, 1, 2, 3, 4] [(0, .ref ro), (1, .int (nI a)), (2, .int (nI b)), (3, .int (nI (unl pl a b (i + 1)))), (4, .int (nI i))] (by rw [show unl pl a b (i + 1) = unl pl a b i from by show unl pl a b i + _ = _; rw [if_pos c_20]; rfl]; rfl) ?_
          refine g_iinc F (nI (i + 1)) 4 4 [(0, .ref ro), (1, .int (nI a)), (2, .int (nI b)), (3, .int (nI (unl pl a b (i + 1)))), (4, .int (nI (i + 1)))] [1, 2, 3, 4, 0] dX8_unlikePlaces_26 rfl (n_inc i) (by decide) rfl ?_
          refine g_goto F 5 dX8_unlikePlaces_29 (by decide) ?_
          exact ih_5 (i + 1) (by omega) (by omega)
        · refine g_iinc F (nI ((unl pl a b i) + 1)) 3 3 [(0, .ref ro), (1, .int (nI a)), (2, .int (nI b)), (3, .int (nI ((unl pl a b i) + 1))), (4, .int (nI i))] [1, 2, 3, 0, 4] dX8_unlikePlaces_23 rfl (n_inc (unl pl a b i)) (by decide) rfl ?_
          refine g_lv [0, 1, 2, 3, 4] [(0, .ref ro), (1, .int (nI a)), (2, .int (nI b)), (3, .int (nI (unl pl a b (i + 1)))), (4, .int (nI i))] (by rw [show unl pl a b (i + 1) = unl pl a b i + 1 from by show unl pl a b i + _ = _; rw [if_neg c_20]]; rfl) ?_
          refine g_iinc F (nI (i + 1)) 4 4 [(0, .ref ro), (1, .int (nI a)), (2, .int (nI b)), (3, .int (nI (unl pl a b (i + 1)))), (4, .int (nI (i + 1)))] [1, 2, 3, 4, 0] dX8_unlikePlaces_26 rfl (n_inc i) (by decide) rfl ?_
          refine g_goto F 5 dX8_unlikePlaces_29 (by decide) ?_
          exact ih_5 (i + 1) (by omega) (by omega)
  exact lp_5 _ 0 (by omega) (Nat.lt_succ_self _)

set_option maxHeartbeats 4000000 in
set_option maxRecDepth 100000 in
theorem c_X8_sumOfDifferences (E : Ev) (ro : Nat) (la : Nat) (pa : Nat) (na : Nat) (ln : Nat → Int32) (pl : Nat → Int32) (li : Nat → Int32) (n : Nat) (a : Nat) (b : Nat) (hv : VR pl) (ha : a < 60) (hb : b < 60) : RDi E yX8_sumOfDifferences (wq yX8_sumOfDifferences cX8_sumOfDifferences 5 (some .int)) (rmk 2 44) [.ref ro, .int (nI a), .int (nI b)] [ob ro 8 [.ref la, .ref pa, .ref na, .int (nI n)], ia E la 60 ln, ia E pa 480 pl, ia E na 9 li] (nI (smd pl a b 8)) := by
  refine CTi.of (by decide) (Nat.le_of_ble_eq_true rfl) (fun X F R => ?_)
  refine g_lv [0, 1, 2] [(0, .ref ro), (1, .int (nI a)), (2, .int (nI b))] rfl ?_
  refine g_iconst F (nI 0) (by decide) dX8_sumOfDifferences_0 ?_
  refine g_istore_n F 3 [(0, .ref ro), (1, .int (nI a)), (2, .int (nI b)), (3, .int (nI 0))] [1, 2, 3, 0] dX8_sumOfDifferences_1 rfl (by decide) rfl ?_
  refine g_iconst F (nI 0) (by decide) dX8_sumOfDifferences_2 ?_
  refine g_istore F 4 [(0, .ref ro), (1, .int (nI a)), (2, .int (nI b)), (3, .int (nI 0)), (4, .int (nI 0))] [1, 2, 3, 4, 0] dX8_sumOfDifferences_3 (by decide) rfl ?_
  have lp_5 : ∀ (n_5 : Nat) (i : Nat), (i ≤ 8) → 8 - i < n_5 → GW E X 0 0 [ob ro 8 [.ref la, .ref pa, .ref na, .int (nI n)], ia E la 60 ln, ia E pa 480 pl, ia E na 9 li] [(0, .ref ro), (1, .int (nI a)), (2, .int (nI b)), (3, .int (nI (smd pl a b i))), (4, .int (nI i))] 5 [] := by
    intro n_5
    induction n_5 with
    | zero => intro i hi hm_5; exact absurd hm_5 (Nat.not_lt_zero _)
    | succ n_5 ih_5 =>
      intro i hi hm_5
      refine g_iload F 4 rfl dX8_sumOfDifferences_5 ?_
      refine g_bipush F (nI 8) (by decide) dX8_sumOfDifferences_7 ?_
      refine n_icmp_ge F 29 dX8_sumOfDifferences_9 (by decide) (by omega) (by omega) (fun c_9 => ?_) (fun c_9 => ?_)
      · refine g_iload_n F 3 rfl dX8_sumOfDifferences_29 ?_
        exact R _ (()) _ _ dX8_sumOfDifferences_30 (by rw [show i = 8 by omega])
      · refine g_iload_n F 3 rfl dX8_sumOfDifferences_12 ?_
        refine g_aload_n F 0 rfl dX8_sumOfDifferences_13 ?_
        refine g_iload_n F 1 rfl dX8_sumOfDifferences_14 ?_
        refine g_iload_n F 2 rfl dX8_sumOfDifferences_15 ?_
        refine g_iload F 4 rfl dX8_sumOfDifferences_16 ?_
        refine g_rVi F (wr := []) [.int (nI (smd pl a b i))] (c_X8_difference E ro la pa na ln pl li n a b i (by omega) (by omega) (by omega) (by omega)) (gi_V tw_ml_X8_25 tw_im_X8_difference tw_se_X8_difference tw_in_X8 tw_co_X8_difference) 3 rfl (by decide) ⟨rfl, rfl, by decide, by decide, Nat.zero_le _, Nat.zero_le _⟩ 8 0 rfl rfl [0, 1, 2, 3] [] [0, 1, 2, 3] rfl rfl (by decide) rfl rfl (Nat.le_of_ble_eq_true rfl) dX8_sumOfDifferences_18 ?_
        refine n_add F dX8_sumOfDifferences_21 ?_
        refine g_top (nI (smd pl a b (i + 1))) (rfl) ?_
        refine g_istore_n F 3 [(0, .ref ro), (1, .int (nI a)), (2, .int (nI b)), (3, .int (nI (smd pl a b (i + 1)))), (4, .int (nI i))] [1, 2, 3, 0, 4] dX8_sumOfDifferences_22 rfl (by decide) rfl ?_
        refine g_iinc F (nI (i + 1)) 4 4 [(0, .ref ro), (1, .int (nI a)), (2, .int (nI b)), (3, .int (nI (smd pl a b (i + 1)))), (4, .int (nI (i + 1)))] [1, 2, 3, 4, 0] dX8_sumOfDifferences_23 rfl (n_inc i) (by decide) rfl ?_
        refine g_goto F 5 dX8_sumOfDifferences_26 (by decide) ?_
        exact ih_5 (i + 1) (by omega) (by omega)
  exact lp_5 _ 0 (by omega) (Nat.lt_succ_self _)

set_option maxHeartbeats 4000000 in
set_option maxRecDepth 100000 in
theorem c_X8_greatestDifference (E : Ev) (ro : Nat) (la : Nat) (pa : Nat) (na : Nat) (ln : Nat → Int32) (pl : Nat → Int32) (li : Nat → Int32) (n : Nat) (a : Nat) (b : Nat) (hv : VR pl) (ha : a < 60) (hb : b < 60) : RDi E yX8_greatestDifference (wq yX8_greatestDifference cX8_greatestDifference 5 (some .int)) (rmk 2 44) [.ref ro, .int (nI a), .int (nI b)] [ob ro 8 [.ref la, .ref pa, .ref na, .int (nI n)], ia E la 60 ln, ia E pa 480 pl, ia E na 9 li] (nI (grd pl a b 8)) := by
  refine CTi.of (by decide) (Nat.le_of_ble_eq_true rfl) (fun X F R => ?_)
  refine g_lv [0, 1, 2] [(0, .ref ro), (1, .int (nI a)), (2, .int (nI b))] rfl ?_
  refine g_iconst F (nI 0) (by decide) dX8_greatestDifference_0 ?_
  refine g_istore_n F 3 [(0, .ref ro), (1, .int (nI a)), (2, .int (nI b)), (3, .int (nI 0))] [1, 2, 3, 0] dX8_greatestDifference_1 rfl (by decide) rfl ?_
  refine g_iconst F (nI 0) (by decide) dX8_greatestDifference_2 ?_
  refine g_istore F 4 [(0, .ref ro), (1, .int (nI a)), (2, .int (nI b)), (3, .int (nI 0)), (4, .int (nI 0))] [1, 2, 3, 4, 0] dX8_greatestDifference_3 (by decide) rfl ?_
  have lp_5 : ∀ (n_5 : Nat) (i : Nat), (i ≤ 8) → 8 - i < n_5 → GW E X 0 0 [ob ro 8 [.ref la, .ref pa, .ref na, .int (nI n)], ia E la 60 ln, ia E pa 480 pl, ia E na 9 li] [(0, .ref ro), (1, .int (nI a)), (2, .int (nI b)), (3, .int (nI (grd pl a b i))), (4, .int (nI i))] 5 [] := by
    intro n_5
    induction n_5 with
    | zero => intro i hi hm_5; exact absurd hm_5 (Nat.not_lt_zero _)
    | succ n_5 ih_5 =>
      intro i hi hm_5
      refine g_iload F 4 rfl dX8_greatestDifference_5 ?_
      refine g_bipush F (nI 8) (by decide) dX8_greatestDifference_7 ?_
      refine n_icmp_ge F 31 dX8_greatestDifference_9 (by decide) (by omega) (by omega) (fun c_9 => ?_) (fun c_9 => ?_)
      · refine g_iload_n F 3 rfl dX8_greatestDifference_31 ?_
        exact R _ (()) _ _ dX8_greatestDifference_32 (by rw [show i = 8 by omega])
      · refine g_iload_n F 3 rfl dX8_greatestDifference_12 ?_
        refine g_aload_n F 0 rfl dX8_greatestDifference_13 ?_
        refine g_iload_n F 1 rfl dX8_greatestDifference_14 ?_
        refine g_iload_n F 2 rfl dX8_greatestDifference_15 ?_
        refine g_iload F 4 rfl dX8_greatestDifference_16 ?_
        refine g_rVi F (wr := []) [.int (nI (grd pl a b i))] (c_X8_difference E ro la pa na ln pl li n a b i (by omega) (by omega) (by omega) (by omega)) (gi_V tw_ml_X8_25 tw_im_X8_difference tw_se_X8_difference tw_in_X8 tw_co_X8_difference) 3 rfl (by decide) ⟨rfl, rfl, by decide, by decide, Nat.zero_le _, Nat.zero_le _⟩ 8 0 rfl rfl [0, 1, 2, 3] [] [0, 1, 2, 3] rfl rfl (by decide) rfl rfl (Nat.le_of_ble_eq_true rfl) dX8_greatestDifference_18 ?_
        refine g_mmax F tw_ml_X8_29 (by decide) (Nat.le_of_ble_eq_true rfl) (Nat.zero_le _) (Nat.zero_le _) dX8_greatestDifference_21 ?_
        refine g_top _ (n_max (grd pl a b i) (dfN pl a b i) (by have := grd_le hv ha hb i hi; omega) (by have := df_le (i := i) hv ha hb (by omega); omega)) ?_
        refine g_top (nI (grd pl a b (i + 1))) (rfl) ?_
        refine g_istore_n F 3 [(0, .ref ro), (1, .int (nI a)), (2, .int (nI b)), (3, .int (nI (grd pl a b (i + 1)))), (4, .int (nI i))] [1, 2, 3, 0, 4] dX8_greatestDifference_24 rfl (by decide) rfl ?_
        refine g_iinc F (nI (i + 1)) 4 4 [(0, .ref ro), (1, .int (nI a)), (2, .int (nI b)), (3, .int (nI (grd pl a b (i + 1)))), (4, .int (nI (i + 1)))] [1, 2, 3, 4, 0] dX8_greatestDifference_25 rfl (n_inc i) (by decide) rfl ?_
        refine g_goto F 5 dX8_greatestDifference_28 (by decide) ?_
        exact ih_5 (i + 1) (by omega) (by omega)
  exact lp_5 _ 0 (by omega) (Nat.lt_succ_self _)

set_option maxHeartbeats 4000000 in
set_option maxRecDepth 100000 in
theorem c_X8_hasBefore (E : Ev) (ro : Nat) (la : Nat) (pa : Nat) (na : Nat) (ln : Nat → Int32) (pl : Nat → Int32) (li : Nat → Int32) (n : Nat) (t : Nat) (e : Nat) (v : Int32) (ht : t < 60) (he : e ≤ 8) : CTi E yX8_hasBefore (wq yX8_hasBefore cX8_hasBefore 5 (some .boolean)) (rmk 0 0) [.ref ro, .int (nI t), .int (nI e), .int v] [ob ro 8 [.ref la, .ref pa, .ref na, .int (nI n)], ia E la 60 ln, ia E pa 480 pl, ia E na 9 li] (fun (r : Int32) (u : Unit) => (r = 1 ∧ hsb pl t v e = true) ∨ (r = 0 ∧ hsb pl t v e = false)) (fun (u : Unit) => [ob ro 8 [.ref la, .ref pa, .ref na, .int (nI n)], ia E la 60 ln, ia E pa 480 pl, ia E na 9 li]) := by
  refine CTi.ofZ (by decide) (Nat.le_of_ble_eq_true rfl) (fun X F R => ?_)
  refine g_lv [0, 1, 2, 3] [(0, .ref ro), (1, .int (nI t)), (2, .int (nI e)), (3, .int v)] rfl ?_
  refine g_iconst F (nI 0) (by decide) dX8_hasBefore_0 ?_
  refine g_istore F 4 [(0, .ref ro), (1, .int (nI t)), (2, .int (nI e)), (3, .int v), (4, .int (nI 0))] [1, 2, 3, 4, 0] dX8_hasBefore_1 (by decide) rfl ?_
  have lp_3 : ∀ (n_3 : Nat) (i : Nat), (i ≤ e) → (hsb pl t v i = false) → e - i < n_3 → GW E X 0 0 [ob ro 8 [.ref la, .ref pa, .ref na, .int (nI n)], ia E la 60 ln, ia E pa 480 pl, ia E na 9 li] [(0, .ref ro), (1, .int (nI t)), (2, .int (nI e)), (3, .int v), (4, .int (nI i))] 3 [] := by
    intro n_3
    induction n_3 with
    | zero => intro i hi hp hm_3; exact absurd hm_3 (Nat.not_lt_zero _)
    | succ n_3 ih_3 =>
      intro i hi hp hm_3
      refine g_iload F 4 rfl dX8_hasBefore_3 ?_
      refine g_iload_n F 2 rfl dX8_hasBefore_5 ?_
      refine n_icmp_ge F 33 dX8_hasBefore_6 (by decide) (by omega) (by omega) (fun c_6 => ?_) (fun c_6 => ?_)
      · refine g_iconst F (nI 0) (by decide) dX8_hasBefore_33 ?_
        exact R _ (()) _ _ dX8_hasBefore_34 (Or.inl rfl) (Or.inr ⟨rfl, by rw [show e = i by omega]; exact hp⟩)
      · refine g_aload_n F 0 rfl dX8_hasBefore_9 ?_
        refine g_get F 8 0 1 inX8 rfl rfl (by decide) tw_fl_X8_15 rfl dX8_hasBefore_10 ?_
        refine g_iload_n F 1 rfl dX8_hasBefore_13 ?_
        refine g_bipush F (nI 8) (by decide) dX8_hasBefore_14 ?_
        refine n_mul F dX8_hasBefore_16 ?_
        refine g_iload F 4 rfl dX8_hasBefore_17 ?_
        refine n_add F dX8_hasBefore_19 ?_
        refine g_iald F 2 rfl (by omega) (by decide) dX8_hasBefore_20 ?_
        refine g_iload_n F 3 rfl dX8_hasBefore_21 ?_
        refine g_icmp_ne F 27 dX8_hasBefore_22 (by decide) (fun c_22 => ?_) (fun c_22 => ?_)
        · refine g_iinc F (nI (i + 1)) 4 4 [(0, .ref ro), (1, .int (nI t)), (2, .int (nI e)), (3, .int v), (4, .int (nI (i + 1)))] [1, 2, 3, 4, 0] dX8_hasBefore_27 rfl (n_inc i) (by decide) rfl ?_
          refine g_goto F 3 dX8_hasBefore_30 (by decide) ?_
          exact ih_3 (i + 1) (by omega) (hsb_no hp c_22) (by omega)
        · refine g_iconst F (nI 1) (by decide) dX8_hasBefore_25 ?_
          exact R _ (()) _ _ dX8_hasBefore_26 (Or.inr rfl) (Or.inl ⟨rfl, hsb_of c_6 c_22⟩)
  exact lp_3 _ 0 (by omega) (rfl) (Nat.lt_succ_self _)

set_option maxHeartbeats 4000000 in
set_option maxRecDepth 100000 in
theorem c_X8_valuesMissing (E : Ev) (ro : Nat) (la : Nat) (pa : Nat) (na : Nat) (ln : Nat → Int32) (pl : Nat → Int32) (li : Nat → Int32) (n : Nat) (L : Nat → Nat) (a : Nat) (b : Nat) (hL : LR ln L) (ha : a < 60) (hb : b < 60) : RDi E yX8_valuesMissing (wq yX8_valuesMissing cX8_valuesMissing 6 (some .int)) (rmk 1 24) [.ref ro, .int (nI a), .int (nI b)] [ob ro 8 [.ref la, .ref pa, .ref na, .int (nI n)], ia E la 60 ln, ia E pa 480 pl, ia E na 9 li] (nI (msn pl L a b (L a))) := by
  refine CTi.of (by decide) (Nat.le_of_ble_eq_true rfl) (fun X F R => ?_)
  refine g_lv [0, 1, 2] [(0, .ref ro), (1, .int (nI a)), (2, .int (nI b))] rfl ?_
  have hLa := (hL a ha).2
  have hLb := (hL b hb).2
  refine g_iconst F (nI 0) (by decide) dX8_valuesMissing_0 ?_
  refine g_istore_n F 3 [(0, .ref ro), (1, .int (nI a)), (2, .int (nI b)), (3, .int (nI 0))] [1, 2, 3, 0] dX8_valuesMissing_1 rfl (by decide) rfl ?_
  refine g_iconst F (nI 0) (by decide) dX8_valuesMissing_2 ?_
  refine g_istore F 4 [(0, .ref ro), (1, .int (nI a)), (2, .int (nI b)), (3, .int (nI 0)), (4, .int (nI 0))] [1, 2, 3, 4, 0] dX8_valuesMissing_3 (by decide) rfl ?_
  have lp_5 : ∀ (n_5 : Nat) (i : Nat), (i ≤ L a) → L a - i < n_5 → GW E X 0 0 [ob ro 8 [.ref la, .ref pa, .ref na, .int (nI n)], ia E la 60 ln, ia E pa 480 pl, ia E na 9 li] [(0, .ref ro), (1, .int (nI a)), (2, .int (nI b)), (3, .int (nI (msn pl L a b i))), (4, .int (nI i))] 5 [] := by
    intro n_5
    induction n_5 with
    | zero => intro i hi hm_5; exact absurd hm_5 (Nat.not_lt_zero _)
    | succ n_5 ih_5 =>
      intro i hi hm_5
      refine g_iload F 4 rfl dX8_valuesMissing_5 ?_
      refine g_aload_n F 0 rfl dX8_valuesMissing_7 ?_
      refine g_get F 8 0 0 inX8 rfl rfl (by decide) tw_fl_X8_9 rfl dX8_valuesMissing_8 ?_
      refine g_iload_n F 1 rfl dX8_valuesMissing_11 ?_
      refine g_iald F 1 rfl (by omega) (by decide) dX8_valuesMissing_12 ?_
      refine g_top (nI (L a)) ((hL a ha).1) ?_
      refine n_icmp_ge F 67 dX8_valuesMissing_13 (by decide) (by omega) (by omega) (fun c_13 => ?_) (fun c_13 => ?_)
      · refine g_iload_n F 3 rfl dX8_valuesMissing_67 ?_
        exact R _ (()) _ _ dX8_valuesMissing_68 (by rw [show i = L a by omega])
      · refine g_aload_n F 0 rfl dX8_valuesMissing_16 ?_
        refine g_get F 8 0 1 inX8 rfl rfl (by decide) tw_fl_X8_15 rfl dX8_valuesMissing_17 ?_
        refine g_iload_n F 1 rfl dX8_valuesMissing_20 ?_
        refine g_bipush F (nI 8) (by decide) dX8_valuesMissing_21 ?_
        refine n_mul F dX8_valuesMissing_23 ?_
        refine g_iload F 4 rfl dX8_valuesMissing_24 ?_
        refine n_add F dX8_valuesMissing_26 ?_
        refine g_iald F 2 rfl (by omega) (by decide) dX8_valuesMissing_27 ?_
        refine g_istore F 5 [(0, .ref ro), (1, .int (nI a)), (2, .int (nI b)), (3, .int (nI (msn pl L a b i))), (4, .int (nI i)), (5, .int (pl ((a * 8) + i)))] [1, 2, 3, 4, 5, 0] dX8_valuesMissing_28 (by decide) rfl ?_
        refine g_aload_n F 0 rfl dX8_valuesMissing_30 ?_
        refine g_iload_n F 1 rfl dX8_valuesMissing_31 ?_
        refine g_iload F 4 rfl dX8_valuesMissing_32 ?_
        refine g_iload F 5 rfl dX8_valuesMissing_34 ?_
        refine g_cVi F (wr := []) [] (c_X8_hasBefore E ro la pa na ln pl li n a i (pl ((a * 8) + i)) (ha) (by omega)) (gi_V tw_ml_X8_38 tw_im_X8_hasBefore tw_se_X8_hasBefore tw_in_X8 tw_co_X8_hasBefore) 3 rfl (by decide) ⟨rfl, rfl, by decide, by decide, Nat.zero_le _, Nat.zero_le _⟩ 8 0 rfl rfl [0, 1, 2, 3] [] [0, 1, 2, 3] (fun u => [ob ro 8 [.ref la, .ref pa, .ref na, .int (nI n)], ia E la 60 ln, ia E pa 480 pl, ia E na 9 li]) rfl rfl (by decide) (fun _ => rfl) rfl (Nat.le_of_ble_eq_true rfl) dX8_valuesMissing_36 (fun r_36 u hu_36 => ?_)
        rcases hu_36 with ⟨rfl, h_36⟩ | ⟨rfl, h_36⟩
        · refine g_if_ne F 61 dX8_valuesMissing_39 (by decide) (fun _ => ?_) (fun h => absurd h (by decide))
          refine g_lv [0, 1, 2, 3, 4, 5] [(0, .ref ro), (1, .int (nI a)), (2, .int (nI b)), (3, .int (nI (msn pl L a b (i + 1)))), (4, .int (nI i)), (5, .int (pl (a * 8 + i)))] (by rw [msn_0 (Or.inl h_36)]; rfl) ?_
          refine g_iinc F (nI (i + 1)) 4 4 [(0, .ref ro), (1, .int (nI a)), (2, .int (nI b)), (3, .int (nI (msn pl L a b (i + 1)))), (4, .int (nI (i + 1))), (5, .int (pl ((a * 8) + i)))] [1, 2, 3, 4, 0, 5] dX8_valuesMissing_61 rfl (n_inc i) (by decide) rfl ?_
          refine g_goto F 5 dX8_valuesMissing_64 (by decide) ?_
          refine g_lv [0, 1, 2, 3, 4] [(0, .ref ro), (1, .int (nI a)), (2, .int (nI b)), (3, .int (nI (msn pl L a b (i + 1)))), (4, .int (nI (i + 1)))] rfl ?_
          exact ih_5 (i + 1) (by omega) (by omega)
        · refine g_if_ne F 61 dX8_valuesMissing_39 (by decide) (fun h => absurd (by decide) h) (fun _ => ?_)
          refine g_aload_n F 0 rfl dX8_valuesMissing_42 ?_
          refine g_iload_n F 2 rfl dX8_valuesMissing_43 ?_
          refine g_aload_n F 0 rfl dX8_valuesMissing_44 ?_
          refine g_get F 8 0 0 inX8 rfl rfl (by decide) tw_fl_X8_9 rfl dX8_valuesMissing_45 ?_
          refine g_iload_n F 2 rfl dX8_valuesMissing_48 ?_
          refine g_iald F 1 rfl (by omega) (by decide) dX8_valuesMissing_49 ?_
          refine g_top (nI (L b)) ((hL b hb).1) ?_
          refine g_iload F 5 rfl dX8_valuesMissing_50 ?_
          refine g_cVi F (wr := []) [] (c_X8_hasBefore E ro la pa na ln pl li n b (L b) (pl ((a * 8) + i)) (hb) (by omega)) (gi_V tw_ml_X8_38 tw_im_X8_hasBefore tw_se_X8_hasBefore tw_in_X8 tw_co_X8_hasBefore) 3 rfl (by decide) ⟨rfl, rfl, by decide, by decide, Nat.zero_le _, Nat.zero_le _⟩ 8 0 rfl rfl [0, 1, 2, 3] [] [0, 1, 2, 3] (fun u => [ob ro 8 [.ref la, .ref pa, .ref na, .int (nI n)], ia E la 60 ln, ia E pa 480 pl, ia E na 9 li]) rfl rfl (by decide) (fun _ => rfl) rfl (Nat.le_of_ble_eq_true rfl) dX8_valuesMissing_52 (fun r_52 u hu_52 => ?_)
          rcases hu_52 with ⟨rfl, h_52⟩ | ⟨rfl, h_52⟩
          · refine g_if_ne F 61 dX8_valuesMissing_55 (by decide) (fun _ => ?_) (fun h => absurd h (by decide))
            refine g_lv [0, 1, 2, 3, 4, 5] [(0, .ref ro), (1, .int (nI a)), (2, .int (nI b)), (3, .int (nI (msn pl L a b (i + 1)))), (4, .int (nI i)), (5, .int (pl (a * 8 + i)))] (by rw [msn_0 (Or.inr h_52)]; rfl) ?_
            refine g_iinc F (nI (i + 1)) 4 4 [(0, .ref ro), (1, .int (nI a)), (2, .int (nI b)), (3, .int (nI (msn pl L a b (i + 1)))), (4, .int (nI (i + 1))), (5, .int (pl ((a * 8) + i)))] [1, 2, 3, 4, 0, 5] dX8_valuesMissing_61 rfl (n_inc i) (by decide) rfl ?_
            refine g_goto F 5 dX8_valuesMissing_64 (by decide) ?_
            refine g_lv [0, 1, 2, 3, 4] [(0, .ref ro), (1, .int (nI a)), (2, .int (nI b)), (3, .int (nI (msn pl L a b (i + 1)))), (4, .int (nI (i + 1)))] rfl ?_
            exact ih_5 (i + 1) (by omega) (by omega)
          · refine g_if_ne F 61 dX8_valuesMissing_55 (by decide) (fun h => absurd (by decide) h) (fun _ => ?_)
            refine g_iinc F (nI ((msn pl L a b i) + 1)) 3 3 [(0, .ref ro), (1, .int (nI a)), (2, .int (nI b)), (3, .int (nI ((msn pl L a b i) + 1))), (4, .int (nI i)), (5, .int (pl ((a * 8) + i)))] [1, 2, 3, 0, 4, 5] dX8_valuesMissing_58 rfl (n_inc (msn pl L a b i)) (by decide) rfl ?_
            refine g_lv [0, 1, 2, 3, 4, 5] [(0, .ref ro), (1, .int (nI a)), (2, .int (nI b)), (3, .int (nI (msn pl L a b (i + 1)))), (4, .int (nI i)), (5, .int (pl (a * 8 + i)))] (by rw [msn_1 h_36 h_52]; rfl) ?_
            refine g_iinc F (nI (i + 1)) 4 4 [(0, .ref ro), (1, .int (nI a)), (2, .int (nI b)), (3, .int (nI (msn pl L a b (i + 1)))), (4, .int (nI (i + 1))), (5, .int (pl ((a * 8) + i)))] [1, 2, 3, 4, 0, 5] dX8_valuesMissing_61 rfl (n_inc i) (by decide) rfl ?_
            refine g_goto F 5 dX8_valuesMissing_64 (by decide) ?_
            refine g_lv [0, 1, 2, 3, 4] [(0, .ref ro), (1, .int (nI a)), (2, .int (nI b)), (3, .int (nI (msn pl L a b (i + 1)))), (4, .int (nI (i + 1)))] rfl ?_
            exact ih_5 (i + 1) (by omega) (by omega)
  exact lp_5 _ 0 (by omega) (Nat.lt_succ_self _)

set_option maxHeartbeats 4000000 in
set_option maxRecDepth 100000 in
theorem c_X8_fewestEdits (E : Ev) (ro : Nat) (la : Nat) (pa : Nat) (na : Nat) (ln : Nat → Int32) (pl : Nat → Int32) (li : Nat → Int32) (n : Nat) (L : Nat → Nat) (a : Nat) (b : Nat) (hL : LR ln L) (ha : a < 60) (hb : b < 60) : CTi E yX8_fewestEdits (wq yX8_fewestEdits cX8_fewestEdits 9 (some .int)) (rmk 1 21) [.ref ro, .int (nI a), .int (nI b)] [ob ro 8 [.ref la, .ref pa, .ref na, .int (nI n)], ia E la 60 ln, ia E pa 480 pl, ia E na 9 li] (fun (r : Int32) (u : (Nat → Int32)) => r = nI (edN pl a b (L a) (L b))) (fun (u : (Nat → Int32)) => [ob ro 8 [.ref la, .ref pa, .ref na, .int (nI n)], ia E la 60 ln, ia E pa 480 pl, ia E na 9 u]) := by
  refine CTi.of (by decide) (Nat.le_of_ble_eq_true rfl) (fun X F R => ?_)
  refine g_lv [0, 1, 2] [(0, .ref ro), (1, .int (nI a)), (2, .int (nI b))] rfl ?_
  have hLa := (hL a ha).2
  have hLb := (hL b hb).2
  have hed := fun (i j : Nat) => ed_le pl a b i j
  refine g_aload_n F 0 rfl dX8_fewestEdits_0 ?_
  refine g_get F 8 0 0 inX8 rfl rfl (by decide) tw_fl_X8_9 rfl dX8_fewestEdits_1 ?_
  refine g_iload_n F 2 rfl dX8_fewestEdits_4 ?_
  refine g_iald F 1 rfl (by omega) (by decide) dX8_fewestEdits_5 ?_
  refine g_top (nI (L b)) ((hL b hb).1) ?_
  refine g_istore_n F 3 [(0, .ref ro), (1, .int (nI a)), (2, .int (nI b)), (3, .int (nI (L b)))] [1, 2, 3, 0] dX8_fewestEdits_6 rfl (by decide) rfl ?_
  refine g_iconst F (nI 0) (by decide) dX8_fewestEdits_7 ?_
  refine g_istore F 4 [(0, .ref ro), (1, .int (nI a)), (2, .int (nI b)), (3, .int (nI (L b))), (4, .int (nI 0))] [1, 2, 3, 4, 0] dX8_fewestEdits_8 (by decide) rfl ?_
  have lp_10 : ∀ (n_10 : Nat) (j : Nat) (g : Nat → Int32), (j ≤ L b + 1) → (∀ q, q < j → g q = nI q) → L b + 1 - j < n_10 → GW E X 0 0 [ob ro 8 [.ref la, .ref pa, .ref na, .int (nI n)], ia E la 60 ln, ia E pa 480 pl, ia E na 9 g] [(0, .ref ro), (1, .int (nI a)), (2, .int (nI b)), (3, .int (nI (L b))), (4, .int (nI j))] 10 [] := by
    intro n_10
    induction n_10 with
    | zero => intro j g hj h0 hm_10; exact absurd hm_10 (Nat.not_lt_zero _)
    | succ n_10 ih_10 =>
      intro j g hj h0 hm_10
      refine g_iload F 4 rfl dX8_fewestEdits_10 ?_
      refine g_iload_n F 3 rfl dX8_fewestEdits_12 ?_
      refine n_icmp_gt F 31 dX8_fewestEdits_13 (by decide) (by omega) (by omega) (fun c_13 => ?_) (fun c_13 => ?_)
      · refine g_iconst F (nI 0) (by decide) dX8_fewestEdits_31 ?_
        refine g_istore F 4 [(0, .ref ro), (1, .int (nI a)), (2, .int (nI b)), (3, .int (nI (L b))), (4, .int (nI 0))] [1, 2, 3, 4, 0] dX8_fewestEdits_32 (by decide) rfl ?_
        have lp_34 : ∀ (n_34 : Nat) (i : Nat) (g : Nat → Int32), (i ≤ L a) → (∀ q, q ≤ L b → g q = nI (edN pl a b i q)) → L a - i < n_34 → GW E X 0 0 [ob ro 8 [.ref la, .ref pa, .ref na, .int (nI n)], ia E la 60 ln, ia E pa 480 pl, ia E na 9 g] [(0, .ref ro), (1, .int (nI a)), (2, .int (nI b)), (3, .int (nI (L b))), (4, .int (nI i))] 34 [] := by
          intro n_34
          induction n_34 with
          | zero => intro i g hi h3 hm_34; exact absurd hm_34 (Nat.not_lt_zero _)
          | succ n_34 ih_34 =>
            intro i g hi h3 hm_34
            refine g_iload F 4 rfl dX8_fewestEdits_34 ?_
            refine g_aload_n F 0 rfl dX8_fewestEdits_36 ?_
            refine g_get F 8 0 0 inX8 rfl rfl (by decide) tw_fl_X8_9 rfl dX8_fewestEdits_37 ?_
            refine g_iload_n F 1 rfl dX8_fewestEdits_40 ?_
            refine g_iald F 1 rfl (by omega) (by decide) dX8_fewestEdits_41 ?_
            refine g_top (nI (L a)) ((hL a ha).1) ?_
            refine n_icmp_ge F 172 dX8_fewestEdits_42 (by decide) (by omega) (by omega) (fun c_42 => ?_) (fun c_42 => ?_)
            · refine g_aload_n F 0 rfl dX8_fewestEdits_172 ?_
              refine g_get F 8 0 2 inX8 rfl rfl (by decide) tw_fl_X8_18 rfl dX8_fewestEdits_173 ?_
              refine g_iload_n F 3 rfl dX8_fewestEdits_176 ?_
              refine g_iald F 3 rfl (by omega) (by decide) dX8_fewestEdits_177 ?_
              exact R _ g _ _ dX8_fewestEdits_178 (by rw [show L a = i by omega]; exact h3 _ (Nat.le_refl _))
            · refine g_aload_n F 0 rfl dX8_fewestEdits_45 ?_
              refine g_get F 8 0 1 inX8 rfl rfl (by decide) tw_fl_X8_15 rfl dX8_fewestEdits_46 ?_
              refine g_iload_n F 1 rfl dX8_fewestEdits_49 ?_
              refine g_bipush F (nI 8) (by decide) dX8_fewestEdits_50 ?_
              refine n_mul F dX8_fewestEdits_52 ?_
              refine g_iload F 4 rfl dX8_fewestEdits_53 ?_
              refine n_add F dX8_fewestEdits_55 ?_
              refine g_iald F 2 rfl (by omega) (by decide) dX8_fewestEdits_56 ?_
              refine g_istore F 5 [(0, .ref ro), (1, .int (nI a)), (2, .int (nI b)), (3, .int (nI (L b))), (4, .int (nI i)), (5, .int (pl ((a * 8) + i)))] [1, 2, 3, 4, 5, 0] dX8_fewestEdits_57 (by decide) rfl ?_
              refine g_aload_n F 0 rfl dX8_fewestEdits_59 ?_
              refine g_get F 8 0 2 inX8 rfl rfl (by decide) tw_fl_X8_18 rfl dX8_fewestEdits_60 ?_
              refine g_iconst F (nI 0) (by decide) dX8_fewestEdits_63 ?_
              refine g_iald F 3 rfl (by omega) (by decide) dX8_fewestEdits_64 ?_
              refine g_top (nI (edN pl a b i 0)) (h3 0 (Nat.zero_le _)) ?_
              refine g_istore F 6 [(0, .ref ro), (1, .int (nI a)), (2, .int (nI b)), (3, .int (nI (L b))), (4, .int (nI i)), (5, .int (pl ((a * 8) + i))), (6, .int (nI (edN pl a b i 0)))] [1, 2, 3, 4, 5, 6, 0] dX8_fewestEdits_65 (by decide) rfl ?_
              refine g_aload_n F 0 rfl dX8_fewestEdits_67 ?_
              refine g_get F 8 0 2 inX8 rfl rfl (by decide) tw_fl_X8_18 rfl dX8_fewestEdits_68 ?_
              refine g_iconst F (nI 0) (by decide) dX8_fewestEdits_71 ?_
              refine g_iload F 4 rfl dX8_fewestEdits_72 ?_
              refine g_iconst F (nI 1) (by decide) dX8_fewestEdits_74 ?_
              refine n_add F dX8_fewestEdits_75 ?_
              refine g_iast F 3 [ob ro 8 [.ref la, .ref pa, .ref na, .int (nI n)], ia E la 60 ln, ia E pa 480 pl, ia E na 9 (upd g 0 (nI (i + 1)))] rfl (by omega) (by decide) rfl dX8_fewestEdits_76 ?_
              refine g_iconst F (nI 0) (by decide) dX8_fewestEdits_77 ?_
              refine g_istore F 7 [(0, .ref ro), (1, .int (nI a)), (2, .int (nI b)), (3, .int (nI (L b))), (4, .int (nI i)), (5, .int (pl ((a * 8) + i))), (6, .int (nI (edN pl a b i 0))), (7, .int (nI 0))] [1, 2, 3, 4, 5, 6, 7, 0] dX8_fewestEdits_78 (by decide) rfl ?_
              have lp_80 : ∀ (n_80 : Nat) (j : Nat) (g1 : Nat → Int32), (j ≤ L b) → (∀ q, q ≤ j → g1 q = nI (edN pl a b (i + 1) q)) → (∀ q, j < q → q ≤ L b → g1 q = nI (edN pl a b i q)) → L b - j < n_80 → GW E X 0 0 [ob ro 8 [.ref la, .ref pa, .ref na, .int (nI n)], ia E la 60 ln, ia E pa 480 pl, ia E na 9 g1] [(0, .ref ro), (1, .int (nI a)), (2, .int (nI b)), (3, .int (nI (L b))), (4, .int (nI i)), (5, .int (pl (a * 8 + i))), (6, .int (nI (edN pl a b i j))), (7, .int (nI j))] 80 [] := by
                intro n_80
                induction n_80 with
                | zero => intro j g1 hj2 h1 h2 hm_80; exact absurd hm_80 (Nat.not_lt_zero _)
                | succ n_80 ih_80 =>
                  intro j g1 hj2 h1 h2 hm_80
                  refine g_iload F 7 rfl dX8_fewestEdits_80 ?_
                  refine g_iload_n F 3 rfl dX8_fewestEdits_82 ?_
                  refine n_icmp_ge F 166 dX8_fewestEdits_83 (by decide) (by omega) (by omega) (fun c_83 => ?_) (fun c_83 => ?_)
                  · refine g_iinc F (nI (i + 1)) 4 4 [(0, .ref ro), (1, .int (nI a)), (2, .int (nI b)), (3, .int (nI (L b))), (4, .int (nI (i + 1))), (5, .int (pl (a * 8 + i))), (6, .int (nI (edN pl a b i j))), (7, .int (nI j))] [1, 2, 3, 4, 0, 5, 6, 7] dX8_fewestEdits_166 rfl (n_inc i) (by decide) rfl ?_
                    refine g_goto F 34 dX8_fewestEdits_169 (by decide) ?_
                    refine g_lv [0, 1, 2, 3, 4] [(0, .ref ro), (1, .int (nI a)), (2, .int (nI b)), (3, .int (nI (L b))), (4, .int (nI (i + 1)))] rfl ?_
                    exact ih_34 (i + 1) g1 (by omega) (fun q hq => h1 q (by omega)) (by omega)
                  · refine g_aload_n F 0 rfl dX8_fewestEdits_86 ?_
                    refine g_get F 8 0 1 inX8 rfl rfl (by decide) tw_fl_X8_15 rfl dX8_fewestEdits_87 ?_
                    refine g_iload_n F 2 rfl dX8_fewestEdits_90 ?_
                    refine g_bipush F (nI 8) (by decide) dX8_fewestEdits_91 ?_
                    refine n_mul F dX8_fewestEdits_93 ?_
                    refine g_iload F 7 rfl dX8_fewestEdits_94 ?_
                    refine n_add F dX8_fewestEdits_96 ?_
                    refine g_iald F 2 rfl (by omega) (by decide) dX8_fewestEdits_97 ?_
                    refine g_iload F 5 rfl dX8_fewestEdits_98 ?_
                    refine g_icmp_ne F 108 dX8_fewestEdits_100 (by decide) (fun c_100 => ?_) (fun c_100 => ?_)
                    · refine g_iload F 6 rfl dX8_fewestEdits_108 ?_
                      refine g_iconst F (nI 1) (by decide) dX8_fewestEdits_110 ?_
                      refine n_add F dX8_fewestEdits_111 ?_
                      refine g_istore F 8 [(0, .ref ro), (1, .int (nI a)), (2, .int (nI b)), (3, .int (nI (L b))), (4, .int (nI i)), (5, .int (pl (a * 8 + i))), (6, .int (nI (edN pl a b i j))), (7, .int (nI j)), (8, .int (nI ((edN pl a b i j) + 1)))] [1, 2, 3, 4, 5, 6, 7, 8, 0] dX8_fewestEdits_112 (by decide) rfl ?_
                      refine g_aload_n F 0 rfl dX8_fewestEdits_114 ?_
                      refine g_get F 8 0 2 inX8 rfl rfl (by decide) tw_fl_X8_18 rfl dX8_fewestEdits_115 ?_
                      refine g_iload F 7 rfl dX8_fewestEdits_118 ?_
                      refine g_iconst F (nI 1) (by decide) dX8_fewestEdits_120 ?_
                      refine n_add F dX8_fewestEdits_121 ?_
                      refine g_iald F 3 rfl (by omega) (by decide) dX8_fewestEdits_122 ?_
                      refine g_top (nI (edN pl a b i (j + 1))) (h2 (j + 1) (by omega) (by omega)) ?_
                      refine g_istore F 6 [(0, .ref ro), (1, .int (nI a)), (2, .int (nI b)), (3, .int (nI (L b))), (4, .int (nI i)), (5, .int (pl (a * 8 + i))), (6, .int (nI (edN pl a b i (j + 1)))), (7, .int (nI j)), (8, .int (nI ((edN pl a b i j) + 1)))] [1, 2, 3, 4, 5, 6, 0, 7, 8] dX8_fewestEdits_123 (by decide) rfl ?_
                      refine g_aload_n F 0 rfl dX8_fewestEdits_125 ?_
                      refine g_get F 8 0 2 inX8 rfl rfl (by decide) tw_fl_X8_18 rfl dX8_fewestEdits_126 ?_
                      refine g_iload F 7 rfl dX8_fewestEdits_129 ?_
                      refine g_iconst F (nI 1) (by decide) dX8_fewestEdits_131 ?_
                      refine n_add F dX8_fewestEdits_132 ?_
                      refine g_iload F 8 rfl dX8_fewestEdits_133 ?_
                      refine g_iconst F (nI 1) (by decide) dX8_fewestEdits_135 ?_
                      refine g_aload_n F 0 rfl dX8_fewestEdits_136 ?_
                      refine g_get F 8 0 2 inX8 rfl rfl (by decide) tw_fl_X8_18 rfl dX8_fewestEdits_137 ?_
                      refine g_iload F 7 rfl dX8_fewestEdits_140 ?_
                      refine g_iald F 3 rfl (by omega) (by decide) dX8_fewestEdits_142 ?_
                      refine g_top (nI (edN pl a b (i + 1) j)) (h1 j (Nat.le_refl _)) ?_
                      refine g_aload_n F 0 rfl dX8_fewestEdits_143 ?_
                      refine g_get F 8 0 2 inX8 rfl rfl (by decide) tw_fl_X8_18 rfl dX8_fewestEdits_144 ?_
                      refine g_iload F 7 rfl dX8_fewestEdits_147 ?_
                      refine g_iconst F (nI 1) (by decide) dX8_fewestEdits_149 ?_
                      refine n_add F dX8_fewestEdits_150 ?_
                      refine g_iald F 3 rfl (by omega) (by decide) dX8_fewestEdits_151 ?_
                      refine g_top (nI (edN pl a b i (j + 1))) (h2 (j + 1) (by omega) (by omega)) ?_
                      refine g_mmin F tw_ml_X8_35 (by decide) (Nat.le_of_ble_eq_true rfl) (Nat.zero_le _) (Nat.zero_le _) dX8_fewestEdits_152 ?_
                      refine g_top _ (n_min (edN pl a b (i + 1) j) (edN pl a b i (j + 1)) (by have := hed (i + 1) j; omega) (by have := hed i (j + 1); omega)) ?_
                      refine n_add F dX8_fewestEdits_155 ?_
                      refine g_mmin F tw_ml_X8_35 (by decide) (Nat.le_of_ble_eq_true rfl) (Nat.zero_le _) (Nat.zero_le _) dX8_fewestEdits_156 ?_
                      refine g_top _ (n_min ((edN pl a b i j) + 1) (1 + (Nat.min (edN pl a b (i + 1) j) (edN pl a b i (j + 1)))) (by have := hed i j; omega) (ed_b (by omega) (by omega))) ?_
                      refine g_iast F 3 [ob ro 8 [.ref la, .ref pa, .ref na, .int (nI n)], ia E la 60 ln, ia E pa 480 pl, ia E na 9 (upd g1 (j + 1) (nI (Nat.min ((edN pl a b i j) + 1) (1 + (Nat.min (edN pl a b (i + 1) j) (edN pl a b i (j + 1)))))))] rfl (by omega) (by decide) rfl dX8_fewestEdits_159 ?_
                      refine g_iinc F (nI (j + 1)) 7 7 [(0, .ref ro), (1, .int (nI a)), (2, .int (nI b)), (3, .int (nI (L b))), (4, .int (nI i)), (5, .int (pl (a * 8 + i))), (6, .int (nI (edN pl a b i (j + 1)))), (7, .int (nI (j + 1))), (8, .int (nI ((edN pl a b i j) + 1)))] [1, 2, 3, 4, 5, 6, 7, 0, 8] dX8_fewestEdits_160 rfl (n_inc j) (by decide) rfl ?_
                      refine g_goto F 80 dX8_fewestEdits_163 (by decide) ?_
                      refine g_lv [0, 1, 2, 3, 4, 5, 6, 7] [(0, .ref ro), (1, .int (nI a)), (2, .int (nI b)), (3, .int (nI (L b))), (4, .int (nI i)), (5, .int (pl (a * 8 + i))), (6, .int (nI (edN pl a b i (j + 1)))), (7, .int (nI (j + 1)))] rfl ?_
                      exact ih_80 (j + 1) (upd g1 (j + 1) (nI (Nat.min ((edN pl a b i j) + 1) (1 + (Nat.min (edN pl a b (i + 1) j) (edN pl a b i (j + 1))))))) (by omega) (fun q hq => by
              by_cases c : q = j + 1
              · subst c; exact pk_us.trans (by rw [ed_ne c_100])
              · exact (pk_un c).trans (h1 q (by omega))) (fun q q1 q2 => (pk_un (by omega)).trans (h2 q (by omega) q2)) (by omega)
                    · refine g_iload F 6 rfl dX8_fewestEdits_103 ?_
                      refine g_goto F 112 dX8_fewestEdits_105 (by decide) ?_
                      refine g_istore F 8 [(0, .ref ro), (1, .int (nI a)), (2, .int (nI b)), (3, .int (nI (L b))), (4, .int (nI i)), (5, .int (pl (a * 8 + i))), (6, .int (nI (edN pl a b i j))), (7, .int (nI j)), (8, .int (nI (edN pl a b i j)))] [1, 2, 3, 4, 5, 6, 7, 8, 0] dX8_fewestEdits_112 (by decide) rfl ?_
                      refine g_aload_n F 0 rfl dX8_fewestEdits_114 ?_
                      refine g_get F 8 0 2 inX8 rfl rfl (by decide) tw_fl_X8_18 rfl dX8_fewestEdits_115 ?_
                      refine g_iload F 7 rfl dX8_fewestEdits_118 ?_
                      refine g_iconst F (nI 1) (by decide) dX8_fewestEdits_120 ?_
                      refine n_add F dX8_fewestEdits_121 ?_
                      refine g_iald F 3 rfl (by omega) (by decide) dX8_fewestEdits_122 ?_
                      refine g_top (nI (edN pl a b i (j + 1))) (h2 (j + 1) (by omega) (by omega)) ?_
                      refine g_istore F 6 [(0, .ref ro), (1, .int (nI a)), (2, .int (nI b)), (3, .int (nI (L b))), (4, .int (nI i)), (5, .int (pl (a * 8 + i))), (6, .int (nI (edN pl a b i (j + 1)))), (7, .int (nI j)), (8, .int (nI (edN pl a b i j)))] [1, 2, 3, 4, 5, 6, 0, 7, 8] dX8_fewestEdits_123 (by decide) rfl ?_
                      refine g_aload_n F 0 rfl dX8_fewestEdits_125 ?_
                      refine g_get F 8 0 2 inX8 rfl rfl (by decide) tw_fl_X8_18 rfl dX8_fewestEdits_126 ?_
                      refine g_iload F 7 rfl dX8_fewestEdits_129 ?_
                      refine g_iconst F (nI 1) (by decide) dX8_fewestEdits_131 ?_
                      refine n_add F dX8_fewestEdits_132 ?_
                      refine g_iload F 8 rfl dX8_fewestEdits_133 ?_
                      refine g_iconst F (nI 1) (by decide) dX8_fewestEdits_135 ?_
                      refine g_aload_n F 0 rfl dX8_fewestEdits_136 ?_
                      refine g_get F 8 0 2 inX8 rfl rfl (by decide) tw_fl_X8_18 rfl dX8_fewestEdits_137 ?_
                      refine g_iload F 7 rfl dX8_fewestEdits_140 ?_
                      refine g_iald F 3 rfl (by omega) (by decide) dX8_fewestEdits_142 ?_
                      refine g_top (nI (edN pl a b (i + 1) j)) (h1 j (Nat.le_refl _)) ?_
                      refine g_aload_n F 0 rfl dX8_fewestEdits_143 ?_
                      refine g_get F 8 0 2 inX8 rfl rfl (by decide) tw_fl_X8_18 rfl dX8_fewestEdits_144 ?_
                      refine g_iload F 7 rfl dX8_fewestEdits_147 ?_
                      refine g_iconst F (nI 1) (by decide) dX8_fewestEdits_149 ?_
                      refine n_add F dX8_fewestEdits_150 ?_
                      refine g_iald F 3 rfl (by omega) (by decide) dX8_fewestEdits_151 ?_
                      refine g_top (nI (edN pl a b i (j + 1))) (h2 (j + 1) (by omega) (by omega)) ?_
                      refine g_mmin F tw_ml_X8_35 (by decide) (Nat.le_of_ble_eq_true rfl) (Nat.zero_le _) (Nat.zero_le _) dX8_fewestEdits_152 ?_
                      refine g_top _ (n_min (edN pl a b (i + 1) j) (edN pl a b i (j + 1)) (by have := hed (i + 1) j; omega) (by have := hed i (j + 1); omega)) ?_
                      refine n_add F dX8_fewestEdits_155 ?_
                      refine g_mmin F tw_ml_X8_35 (by decide) (Nat.le_of_ble_eq_true rfl) (Nat.zero_le _) (Nat.zero_le _) dX8_fewestEdits_156 ?_
                      refine g_top _ (n_min (edN pl a b i j) (1 + (Nat.min (edN pl a b (i + 1) j) (edN pl a b i (j + 1)))) (by have := hed i j; omega) (ed_b (by omega) (by omega))) ?_
                      refine g_iast F 3 [ob ro 8 [.ref la, .ref pa, .ref na, .int (nI n)], ia E la 60 ln, ia E pa 480 pl, ia E na 9 (upd g1 (j + 1) (nI (Nat.min (edN pl a b i j) (1 + (Nat.min (edN pl a b (i + 1) j) (edN pl a b i (j + 1)))))))] rfl (by omega) (by decide) rfl dX8_fewestEdits_159 ?_
                      refine g_iinc F (nI (j + 1)) 7 7 [(0, .ref ro), (1, .int (nI a)), (2, .int (nI b)), (3, .int (nI (L b))), (4, .int (nI i)), (5, .int (pl (a * 8 + i))), (6, .int (nI (edN pl a b i (j + 1)))), (7, .int (nI (j + 1))), (8, .int (nI (edN pl a b i j)))] [1, 2, 3, 4, 5, 6, 7, 0, 8] dX8_fewestEdits_160 rfl (n_inc j) (by decide) rfl ?_
                      refine g_goto F 80 dX8_fewestEdits_163 (by decide) ?_
                      refine g_lv [0, 1, 2, 3, 4, 5, 6, 7] [(0, .ref ro), (1, .int (nI a)), (2, .int (nI b)), (3, .int (nI (L b))), (4, .int (nI i)), (5, .int (pl (a * 8 + i))), (6, .int (nI (edN pl a b i (j + 1)))), (7, .int (nI (j + 1)))] rfl ?_
                      exact ih_80 (j + 1) (upd g1 (j + 1) (nI (Nat.min (edN pl a b i j) (1 + (Nat.min (edN pl a b (i + 1) j) (edN pl a b i (j + 1))))))) (by omega) (fun q hq => by
              by_cases c : q = j + 1
              · subst c; exact pk_us.trans (by rw [ed_eq c_100])
              · exact (pk_un c).trans (h1 q (by omega))) (fun q q1 q2 => (pk_un (by omega)).trans (h2 q (by omega) q2)) (by omega)
              exact lp_80 _ 0 (upd g 0 (nI (i + 1))) (by omega) (fun q hq => by rw [show q = 0 by omega]; exact pk_us) (fun q q1 q2 => (pk_un (by omega)).trans (h3 q q2)) (Nat.lt_succ_self _)
        exact lp_34 _ 0 g (by omega) (fun q hq => h0 q (by omega)) (Nat.lt_succ_self _)
      · refine g_aload_n F 0 rfl dX8_fewestEdits_16 ?_
        refine g_get F 8 0 2 inX8 rfl rfl (by decide) tw_fl_X8_18 rfl dX8_fewestEdits_17 ?_
        refine g_iload F 4 rfl dX8_fewestEdits_20 ?_
        refine g_iload F 4 rfl dX8_fewestEdits_22 ?_
        refine g_iast F 3 [ob ro 8 [.ref la, .ref pa, .ref na, .int (nI n)], ia E la 60 ln, ia E pa 480 pl, ia E na 9 (upd g j (nI j))] rfl (by omega) (by decide) rfl dX8_fewestEdits_24 ?_
        refine g_iinc F (nI (j + 1)) 4 4 [(0, .ref ro), (1, .int (nI a)), (2, .int (nI b)), (3, .int (nI (L b))), (4, .int (nI (j + 1)))] [1, 2, 3, 4, 0] dX8_fewestEdits_25 rfl (n_inc j) (by decide) rfl ?_
        refine g_goto F 10 dX8_fewestEdits_28 (by decide) ?_
        exact ih_10 (j + 1) (upd g j (nI j)) (by omega) (fun q hq => by
          by_cases c : q = j
          · subst c; exact pk_us
          · exact (pk_un c).trans (h0 q (by omega))) (by omega)
  exact lp_10 _ 0 li (by omega) (fun q h => absurd h (Nat.not_lt_zero q)) (Nat.lt_succ_self _)
