def bI (x : Bool) : Int32 := if x = true then 1 else 0
section BIF
variable {E : Ev} {X : Cx} {cc : ByteArray} {own : String} {rm : Room} {nL0 k n pc : Nat} {ws : va_W} {lv : List (Nat × Value)} {st : List Value}
theorem b_if_eq (F : FX E X cc own rm nL0) {x : Bool} {off : Int} (tgt : Nat) (hdg : decode cc pc = .ok (.ifCond .eq off, 3)) (ht : (pc : Int) + off = (tgt : Int)) (kt : x = false → GW E X k n ws lv tgt st) (kf : x = true → GW E X k n ws lv (pc + 3) st) : GW E X k n ws lv pc (.int (bI x) :: st) := by
  refine g_if_eq F tgt hdg ht (fun h => kt ?_) (fun h => kf ?_)
  · cases x with
    | false => rfl
    | true => exact absurd h (by decide)
  · cases x with
    | true => rfl
    | false => exact absurd (by decide) h
theorem b_if_ne (F : FX E X cc own rm nL0) {x : Bool} {off : Int} (tgt : Nat) (hdg : decode cc pc = .ok (.ifCond .ne off, 3)) (ht : (pc : Int) + off = (tgt : Int)) (kt : x = true → GW E X k n ws lv tgt st) (kf : x = false → GW E X k n ws lv (pc + 3) st) : GW E X k n ws lv pc (.int (bI x) :: st) := by
  refine g_if_ne F tgt hdg ht (fun h => kt ?_) (fun h => kf ?_)
  · cases x with
    | true => rfl
    | false => exact absurd (by decide) h
  · cases x with
    | false => rfl
    | true => exact absurd h (by decide)
end BIF
def MDK (n kd : Nat) (L : Nat → Nat) (ln pl : Nat → Int32) (tN : Nat → Nat) (td : Nat → Int32) : Prop := n ≤ 60 ∧ kd ≤ 5 ∧ LR ln L ∧ VR pl ∧ TR td tN ∧ SY tN
def ZI (n : Nat) (zi : Nat → Int32) (I : Nat → Bool) : Prop := (∀ t, t < 60 → zi t = bI (I t)) ∧ ∀ t, I t = true → t < n
theorem nsub1 {n : Nat} (hn : n ≤ 60) {x : Int32} : (¬ x < nI 0 ∧ ¬ nI n - nI 1 < x) ↔ ∃ t, t < n ∧ x = nI t := by
  have e : (nI n - nI 1).toInt = (n : Int) - 1 := pk_sub_toInt (by omega) (by omega)
  constructor
  · rintro ⟨h1, h2⟩
    rw [nI_0] at h1
    obtain ⟨j, hj, rfl⟩ := nI_of h1
    rw [Int32.lt_iff_toInt_lt, e, nI_toInt hj] at h2
    exact ⟨j, by omega, rfl⟩
  · rintro ⟨t, ht, rfl⟩
    refine ⟨nI_nlt (Nat.zero_le _) (by omega), fun z => ?_⟩
    rw [Int32.lt_iff_toInt_lt, e, nI_toInt (by omega)] at z
    omega
theorem nsub1n {n : Nat} (hn : n ≤ 60) {x : Int32} (h : x < nI 0 ∨ nI n - nI 1 < x) : ∀ t, t < n → x ≠ nI t := fun t ht e => by
  obtain ⟨h1, h2⟩ := (nsub1 hn).mpr ⟨t, ht, e⟩
  rcases h with z | z
  · exact h1 z
  · exact h2 z
theorem df_z {pl : Nat → Int32} {a b i : Nat} : dfN pl a b i = 0 ↔ pl (a * 8 + i) = pl (b * 8 + i) := by
  unfold dfN
  constructor
  · intro h
    exact Int32.toInt_inj.mp (by omega)
  · intro h
    rw [h]
    omega
theorem unl_0 {pl : Nat → Int32} {a b i : Nat} (h : pl (a * 8 + i) = pl (b * 8 + i)) : unl pl a b i + 0 = unl pl a b (i + 1) := by
  show _ = unl pl a b i + _
  rw [if_pos (df_z.mpr h)]
theorem unl_1 {pl : Nat → Int32} {a b i : Nat} (h : ¬ pl (a * 8 + i) = pl (b * 8 + i)) : unl pl a b i + 1 = unl pl a b (i + 1) := by
  show _ = unl pl a b i + _
  rw [if_neg (fun z => h (df_z.mp z))]
theorem ed_c0 {pl : Nat → Int32} {a b i j : Nat} (h : pl (a * 8 + i) = pl (b * 8 + j)) : Nat.min (edN pl a b i j + 0) (1 + Nat.min (edN pl a b i (j + 1)) (edN pl a b (i + 1) j)) = edN pl a b (i + 1) (j + 1) := by
  rw [ed_s, if_pos h.symm, show Nat.min (edN pl a b i (j + 1)) (edN pl a b (i + 1) j) = Nat.min (edN pl a b (i + 1) j) (edN pl a b i (j + 1)) from Nat.min_comm _ _]
theorem ed_c1 {pl : Nat → Int32} {a b i j : Nat} (h : ¬ pl (a * 8 + i) = pl (b * 8 + j)) : Nat.min (edN pl a b i j + 1) (1 + Nat.min (edN pl a b i (j + 1)) (edN pl a b (i + 1) j)) = edN pl a b (i + 1) (j + 1) := by
  rw [ed_s, if_neg (fun z => h z.symm), show Nat.min (edN pl a b i (j + 1)) (edN pl a b (i + 1) j) = Nat.min (edN pl a b (i + 1) j) (edN pl a b i (j + 1)) from Nat.min_comm _ _]
theorem ed_b2 {pl : Nat → Int32} {a b i j : Nat} (hi : i ≤ 8) (hj : j ≤ 8) : 1 + Nat.min (edN pl a b i (j + 1)) (edN pl a b (i + 1) j) < 2 ^ 31 := by
  have h1 := ed_le pl a b i (j + 1)
  have h2 : Nat.min (edN pl a b i (j + 1)) (edN pl a b (i + 1) j) ≤ edN pl a b i (j + 1) := Nat.min_le_left _ _
  omega
theorem br_of2 {tN : Nat → Nat} {n a b c : Nat} (ha : a < n) (hb : b < n) (hc : c < n) (hk : bk tN a b c) (h1 : ∀ a', a' < a → ∀ b', b' < n → ∀ c', c' < n → ¬ bk tN a' b' c') (h2 : ∀ b', b' < b → ∀ c', c' < n → ¬ bk tN a b' c') (h3 : ∀ c', c' < c → ¬ bk tN a b c') : BR tN n a b c := by
  refine ⟨ha, hb, hc, hk, fun a' b' c' q1 q2 q3 q5 => ?_⟩
  rcases Nat.lt_trichotomy a' a with z | z | z
  · exact absurd q5 (h1 a' z b' q2 c' q3)
  · subst z
    rcases Nat.lt_trichotomy b' b with y | y | y
    · exact absurd q5 (h2 b' y c' q3)
    · subst y
      rcases Nat.lt_or_ge c' c with x | x
      · exact absurd q5 (h3 c' x)
      · omega
    · omega
  · omega
/-- how many of the first n are in the book -/
def cI (I : Nat → Bool) : Nat → Nat
  | 0 => 0
  | i + 1 => cI I i + (if I i = true then 1 else 0)
theorem cI_1 {I : Nat → Bool} {i : Nat} (h : I i = true) : cI I i + 1 = cI I (i + 1) := by
  show _ = cI I i + _
  rw [if_pos h]
theorem cI_0 {I : Nat → Bool} {i : Nat} (h : I i = false) : cI I i + 0 = cI I (i + 1) := by
  show _ = cI I i + _
  rw [if_neg (by rw [h]; simp)]
theorem cI_le (I : Nat → Bool) : ∀ i, cI I i ≤ i := by
  intro i
  induction i with
  | zero => exact Nat.le_refl _
  | succ i ih => show cI I i + _ ≤ _; split <;> omega

set_option maxHeartbeats 4000000 in
set_option maxRecDepth 100000 in
theorem c_X11_lies (E : Ev) (x : Int32) (y : Int32) (z : Int32)  : CTi E yX11_lies (wq yX11_lies cX11_lies 3 (some .boolean)) (rmk 0 0) [.int x, .int y, .int z] [] (fun (r : Int32) (u : Unit) => (r = 1 ∧ ¬ x < y ∧ ¬ z < x) ∨ (r = 0 ∧ (x < y ∨ z < x))) (fun (u : Unit) => []) := by
  refine CTi.ofZ (by decide) (Nat.le_of_ble_eq_true rfl) (fun X F R => ?_)
  refine g_lv [0, 1, 2] [(0, .int x), (1, .int y), (2, .int z)] rfl ?_
  refine g_iload_n F 0 rfl dX11_lies_0 ?_
  refine g_iload_n F 1 rfl dX11_lies_1 ?_
  refine g_icmp_lt F 14 dX11_lies_2 (by decide) (fun c_2 => ?_) (fun c_2 => ?_)
  · refine g_iconst F (nI 0) (by decide) dX11_lies_14 ?_
    exact R _ (()) _ _ dX11_lies_15 (Or.inl rfl) (Or.inr ⟨rfl, Or.inl c_2⟩)
  · refine g_iload_n F 0 rfl dX11_lies_5 ?_
    refine g_iload_n F 2 rfl dX11_lies_6 ?_
    refine g_icmp_gt F 14 dX11_lies_7 (by decide) (fun c_7 => ?_) (fun c_7 => ?_)
    · refine g_iconst F (nI 0) (by decide) dX11_lies_14 ?_
      exact R _ (()) _ _ dX11_lies_15 (Or.inl rfl) (Or.inr ⟨rfl, Or.inr c_7⟩)
    · refine g_iconst F (nI 1) (by decide) dX11_lies_10 ?_
      refine g_goto F 15 dX11_lies_11 (by decide) ?_
      exact R _ (()) _ _ dX11_lies_15 (Or.inr rfl) (Or.inl ⟨rfl, c_2, c_7⟩)

set_option maxHeartbeats 4000000 in
set_option maxRecDepth 100000 in
theorem c_X11_least (E : Ev) (x : Nat) (y : Nat) (hx : x < 2 ^ 31) (hy : y < 2 ^ 31) : RDi E yX11_least (wq yX11_least cX11_least 2 (some .int)) (rmk 0 0) [.int (nI x), .int (nI y)] [] (nI (Nat.min x y)) := by
  refine CTi.of (by decide) (Nat.le_of_ble_eq_true rfl) (fun X F R => ?_)
  refine g_lv [0, 1] [(0, .int (nI x)), (1, .int (nI y))] rfl ?_
  refine g_iload_n F 0 rfl dX11_least_0 ?_
  refine g_iload_n F 1 rfl dX11_least_1 ?_
  refine n_icmp_ge F 9 dX11_least_2 (by decide) (by omega) (by omega) (fun c_2 => ?_) (fun c_2 => ?_)
  · refine g_iload_n F 1 rfl dX11_least_9 ?_
    exact R _ (()) _ _ dX11_least_10 (by rw [show Nat.min x y = y from Nat.min_eq_right c_2])
  · refine g_iload_n F 0 rfl dX11_least_5 ?_
    refine g_goto F 10 dX11_least_6 (by decide) ?_
    exact R _ (()) _ _ dX11_least_10 (by rw [show Nat.min x y = x from Nat.min_eq_left (Nat.le_of_lt c_2)])

theorem neg_sub0 (x : Int32) : -x = 0 - x := by
  apply Int32.toInt_inj.mp
  rw [Int32.toInt_neg, Int32.toInt_sub, Int32.toInt_zero]
  congr 1
  omega

set_option maxHeartbeats 4000000 in
set_option maxRecDepth 100000 in
theorem c_X11_size (E : Ev) (x : Int32) (y : Int32) (hx : -1000 ≤ x.toInt ∧ x.toInt ≤ 1000) (hy : -1000 ≤ y.toInt ∧ y.toInt ≤ 1000) : RDi E yX11_size (wq yX11_size cX11_size 1 (some .int)) (rmk 0 0) [.int (x - y)] [] (nI ((x.toInt - y.toInt).natAbs)) := by
  refine CTi.of (by decide) (Nat.le_of_ble_eq_true rfl) (fun X F R => ?_)
  refine g_lv [0] [(0, .int (x - y))] rfl ?_
  refine g_iload_n F 0 rfl dX11_size_0 ?_
  refine g_if_ge F 9 dX11_size_1 (by decide) (fun c_1 => ?_) (fun c_1 => ?_)
  · refine g_iload_n F 0 rfl dX11_size_9 ?_
    exact R _ (()) _ _ dX11_size_10 (by rw [← ab_dif hx hy, if_pos c_1])
  · refine g_iload_n F 0 rfl dX11_size_4 ?_
    refine g_ineg F dX11_size_5 ?_
    refine g_goto F 10 dX11_size_6 (by decide) ?_
    exact R _ (()) _ _ dX11_size_10 (by rw [← ab_dif hx hy, if_neg c_1, neg_sub0])

set_option maxHeartbeats 4000000 in
set_option maxRecDepth 100000 in
theorem c_X11_isThing (E : Ev) (A : Nat → Nat) (ln : Nat → Int32) (pl : Nat → Int32) (td : Nat → Int32) (zi : Nat → Int32) (rf : Nat → Int32) (rg : Nat → Int32) (co : Nat → Int32) (bs : Nat → Int32) (zt : Nat → Int32) (al : Nat → Int32) (pp : Nat → Int32) (pw : Nat → Int32) (ph : Nat → Int32) (n : Nat) (kd : Nat) (rk : Nat) (ps : Int32) (L : Nat → Nat) (tN : Nat → Nat) (I : Nat → Bool) (x : Int32) (hK : MDK n kd L ln pl tN td) (hZ : ZI n zi I) : CTi E yX11_isThing (wq yX11_isThing cX11_isThing 2 (some .boolean)) (rmk 1 22) [.ref (A 0), .int x] [ob (A 0) 11 [.int (nI n), .int (nI kd), .ref (A 1), .ref (A 2), .ref (A 3), .ref (A 4), .int (nI rk), .ref (A 5), .ref (A 6), .ref (A 7), .ref (A 8), .ref (A 9), .ref (A 10), .ref (A 11), .int ps, .ref (A 12), .ref (A 13)], ia E (A 1) 60 ln, ia E (A 2) 480 pl, ia E (A 3) 3600 td, za E (A 4) 60 zi, ia E (A 5) 60 rf, ia E (A 6) 60 rg, ia E (A 7) 81 co, ia E (A 8) 3 bs, za E (A 9) 60 zt, ia E (A 10) 3600 al, ia E (A 11) 60 pp, ia E (A 12) 60 pw, ia E (A 13) 60 ph] (fun (r : Int32) (u : Unit) => (r = 1 ∧ ∃ t, t < n ∧ x = nI t) ∨ (r = 0 ∧ ∀ t, t < n → x ≠ nI t)) (fun (u : Unit) => [ob (A 0) 11 [.int (nI n), .int (nI kd), .ref (A 1), .ref (A 2), .ref (A 3), .ref (A 4), .int (nI rk), .ref (A 5), .ref (A 6), .ref (A 7), .ref (A 8), .ref (A 9), .ref (A 10), .ref (A 11), .int ps, .ref (A 12), .ref (A 13)], ia E (A 1) 60 ln, ia E (A 2) 480 pl, ia E (A 3) 3600 td, za E (A 4) 60 zi, ia E (A 5) 60 rf, ia E (A 6) 60 rg, ia E (A 7) 81 co, ia E (A 8) 3 bs, za E (A 9) 60 zt, ia E (A 10) 3600 al, ia E (A 11) 60 pp, ia E (A 12) 60 pw, ia E (A 13) 60 ph]) := by
  refine CTi.ofZ (by decide) (Nat.le_of_ble_eq_true rfl) (fun X F R => ?_)
  refine g_lv [0, 1] [(0, .ref (A 0)), (1, .int x)] rfl ?_
  have hn60 := hK.1
  refine g_iload_n F 1 rfl dX11_isThing_0 ?_
  refine g_iconst F (nI 0) (by decide) dX11_isThing_1 ?_
  refine g_aload_n F 0 rfl dX11_isThing_2 ?_
  refine g_get F 11 0 0 inX11 rfl rfl (by decide) tw_fl_X11_50 rfl dX11_isThing_3 ?_
  refine g_iconst F (nI 1) (by decide) dX11_isThing_6 ?_
  refine g_isub F dX11_isThing_7 ?_
  refine g_cSi F (wr := [ob (A 0) 11 [.int (nI n), .int (nI kd), .ref (A 1), .ref (A 2), .ref (A 3), .ref (A 4), .int (nI rk), .ref (A 5), .ref (A 6), .ref (A 7), .ref (A 8), .ref (A 9), .ref (A 10), .ref (A 11), .int ps, .ref (A 12), .ref (A 13)], ia E (A 1) 60 ln, ia E (A 2) 480 pl, ia E (A 3) 3600 td, za E (A 4) 60 zi, ia E (A 5) 60 rf, ia E (A 6) 60 rg, ia E (A 7) 81 co, ia E (A 8) 3 bs, za E (A 9) 60 zt, ia E (A 10) 3600 al, ia E (A 11) 60 pp, ia E (A 12) 60 pw, ia E (A 13) 60 ph]) [] (c_X11_lies E x (nI 0) ((nI n) - (nI 1)) ) ⟨tw_ml_X11_54, tw_sm_X11_lies, tw_in_X11, tw_co_X11_lies⟩ 3 rfl (by decide) ⟨rfl, rfl, by decide, by decide, Nat.zero_le _, Nat.zero_le _⟩ [] [0, 1, 2, 3, 4, 5, 6, 7, 8, 9, 10, 11, 12, 13] [0, 1, 2, 3, 4, 5, 6, 7, 8, 9, 10, 11, 12, 13] (fun u => [ob (A 0) 11 [.int (nI n), .int (nI kd), .ref (A 1), .ref (A 2), .ref (A 3), .ref (A 4), .int (nI rk), .ref (A 5), .ref (A 6), .ref (A 7), .ref (A 8), .ref (A 9), .ref (A 10), .ref (A 11), .int ps, .ref (A 12), .ref (A 13)], ia E (A 1) 60 ln, ia E (A 2) 480 pl, ia E (A 3) 3600 td, za E (A 4) 60 zi, ia E (A 5) 60 rf, ia E (A 6) 60 rg, ia E (A 7) 81 co, ia E (A 8) 3 bs, za E (A 9) 60 zt, ia E (A 10) 3600 al, ia E (A 11) 60 pp, ia E (A 12) 60 pw, ia E (A 13) 60 ph]) rfl rfl (by decide) (fun _ => rfl) rfl (Nat.le_of_ble_eq_true rfl) dX11_isThing_8 (fun r_8 u hu_8 => ?_)
  rcases hu_8 with ⟨rfl, l1_8, l2_8⟩ | ⟨rfl, l0_8⟩
  · exact R _ (()) _ _ dX11_isThing_11 (Or.inr rfl) (Or.inl ⟨rfl, (nsub1 hn60).mp ⟨l1_8, l2_8⟩⟩)
  · exact R _ (()) _ _ dX11_isThing_11 (Or.inl rfl) (Or.inr ⟨rfl, nsub1n hn60 l0_8⟩)

set_option maxHeartbeats 4000000 in
set_option maxRecDepth 100000 in
theorem c_X11_unlike (E : Ev) (A : Nat → Nat) (ln : Nat → Int32) (pl : Nat → Int32) (td : Nat → Int32) (zi : Nat → Int32) (rf : Nat → Int32) (rg : Nat → Int32) (co : Nat → Int32) (bs : Nat → Int32) (zt : Nat → Int32) (al : Nat → Int32) (pp : Nat → Int32) (pw : Nat → Int32) (ph : Nat → Int32) (n : Nat) (kd : Nat) (rk : Nat) (ps : Int32) (L : Nat → Nat) (tN : Nat → Nat) (I : Nat → Bool) (p0 : Nat) (q0 : Nat) (hK : MDK n kd L ln pl tN td) (hZ : ZI n zi I) (hp : p0 < 60) (hq : q0 < 60) : RDi E yX11_unlike (wq yX11_unlike cX11_unlike 5 (some .int)) (rmk 0 0) [.ref (A 0), .int (nI p0), .int (nI q0)] [ob (A 0) 11 [.int (nI n), .int (nI kd), .ref (A 1), .ref (A 2), .ref (A 3), .ref (A 4), .int (nI rk), .ref (A 5), .ref (A 6), .ref (A 7), .ref (A 8), .ref (A 9), .ref (A 10), .ref (A 11), .int ps, .ref (A 12), .ref (A 13)], ia E (A 1) 60 ln, ia E (A 2) 480 pl, ia E (A 3) 3600 td, za E (A 4) 60 zi, ia E (A 5) 60 rf, ia E (A 6) 60 rg, ia E (A 7) 81 co, ia E (A 8) 3 bs, za E (A 9) 60 zt, ia E (A 10) 3600 al, ia E (A 11) 60 pp, ia E (A 12) 60 pw, ia E (A 13) 60 ph] (nI (unl pl p0 q0 8)) := by
  refine CTi.of (by decide) (Nat.le_of_ble_eq_true rfl) (fun X F R => ?_)
  refine g_lv [0, 1, 2] [(0, .ref (A 0)), (1, .int (nI p0)), (2, .int (nI q0))] rfl ?_
  have hn60 := hK.1
  refine g_iconst F (nI 0) (by decide) dX11_unlike_0 ?_
  refine g_istore_n F 3 [(0, .ref (A 0)), (1, .int (nI p0)), (2, .int (nI q0)), (3, .int (nI 0))] [1, 2, 3, 0] dX11_unlike_1 rfl (by decide) rfl ?_
  refine g_iconst F (nI 0) (by decide) dX11_unlike_2 ?_
  refine g_istore F 4 [(0, .ref (A 0)), (1, .int (nI p0)), (2, .int (nI q0)), (3, .int (nI 0)), (4, .int (nI 0))] [1, 2, 3, 4, 0] dX11_unlike_3 (by decide) rfl ?_
  have lp_5 : ∀ (n_5 : Nat) (i : Nat), (i ≤ 8) → 8 - i < n_5 → GW E X 0 0 [ob (A 0) 11 [.int (nI n), .int (nI kd), .ref (A 1), .ref (A 2), .ref (A 3), .ref (A 4), .int (nI rk), .ref (A 5), .ref (A 6), .ref (A 7), .ref (A 8), .ref (A 9), .ref (A 10), .ref (A 11), .int ps, .ref (A 12), .ref (A 13)], ia E (A 1) 60 ln, ia E (A 2) 480 pl, ia E (A 3) 3600 td, za E (A 4) 60 zi, ia E (A 5) 60 rf, ia E (A 6) 60 rg, ia E (A 7) 81 co, ia E (A 8) 3 bs, za E (A 9) 60 zt, ia E (A 10) 3600 al, ia E (A 11) 60 pp, ia E (A 12) 60 pw, ia E (A 13) 60 ph] [(0, .ref (A 0)), (1, .int (nI p0)), (2, .int (nI q0)), (3, .int (nI (unl pl p0 q0 i))), (4, .int (nI i))] 5 [] := by
    intro n_5
    induction n_5 with
    | zero => intro i hi hm_5; exact absurd hm_5 (Nat.not_lt_zero _)
    | succ n_5 ih_5 =>
      intro i hi hm_5
      refine g_iload F 4 rfl dX11_unlike_5 ?_
      refine g_bipush F (nI 8) (by decide) dX11_unlike_7 ?_
      refine n_icmp_ge F 53 dX11_unlike_9 (by decide) (by omega) (by omega) (fun c_9 => ?_) (fun c_9 => ?_)
      · refine g_iload_n F 3 rfl dX11_unlike_53 ?_
        exact R _ (()) _ _ dX11_unlike_54 (by rw [show i = 8 by omega])
      · refine g_iload_n F 3 rfl dX11_unlike_12 ?_
        refine g_aload_n F 0 rfl dX11_unlike_13 ?_
        refine g_get F 11 0 3 inX11 rfl rfl (by decide) tw_fl_X11_13 rfl dX11_unlike_14 ?_
        refine g_bipush F (nI 8) (by decide) dX11_unlike_17 ?_
        refine g_iload_n F 1 rfl dX11_unlike_19 ?_
        refine n_mul F dX11_unlike_20 ?_
        refine g_top (nI (p0 * 8)) (by rw [Nat.mul_comm]) ?_
        refine g_iload F 4 rfl dX11_unlike_21 ?_
        refine n_add F dX11_unlike_23 ?_
        refine g_iald F 2 rfl (by omega) (by decide) dX11_unlike_24 ?_
        refine g_aload_n F 0 rfl dX11_unlike_25 ?_
        refine g_get F 11 0 3 inX11 rfl rfl (by decide) tw_fl_X11_13 rfl dX11_unlike_26 ?_
        refine g_bipush F (nI 8) (by decide) dX11_unlike_29 ?_
        refine g_iload_n F 2 rfl dX11_unlike_31 ?_
        refine n_mul F dX11_unlike_32 ?_
        refine g_top (nI (q0 * 8)) (by rw [Nat.mul_comm]) ?_
        refine g_iload F 4 rfl dX11_unlike_33 ?_
        refine n_add F dX11_unlike_35 ?_
        refine g_iald F 2 rfl (by omega) (by decide) dX11_unlike_36 ?_
        refine g_icmp_ne F 44 dX11_unlike_37 (by decide) (fun c_37 => ?_) (fun c_37 => ?_)
        · refine g_iconst F (nI 1) (by decide) dX11_unlike_44 ?_
          refine n_add F dX11_unlike_45 ?_
          refine g_top (nI (unl pl p0 q0 (i + 1))) (congrArg nI (by first | exact unl_0 c_37 | exact unl_1 c_37)) ?_
          refine g_istore_n F 3 [(0, .ref (A 0)), (1, .int (nI p0)), (2, .int (nI q0)), (3, .int (nI (unl pl p0 q0 (i + 1)))), (4, .int (nI i))] [1, 2, 3, 0, 4] dX11_unlike_46 rfl (by decide) rfl ?_
          refine g_iinc F (nI (i + 1)) 4 4 [(0, .ref (A 0)), (1, .int (nI p0)), (2, .int (nI q0)), (3, .int (nI (unl pl p0 q0 (i + 1)))), (4, .int (nI (i + 1)))] [1, 2, 3, 4, 0] dX11_unlike_47 rfl (n_inc i) (by decide) rfl ?_
          refine g_goto F 5 dX11_unlike_50 (by decide) ?_
          exact ih_5 (i + 1) (by omega) (by omega)
        · refine g_iconst F (nI 0) (by decide) dX11_unlike_40 ?_
          refine g_goto F 45 dX11_unlike_41 (by decide) ?_
          refine n_add F dX11_unlike_45 ?_
          refine g_top (nI (unl pl p0 q0 (i + 1))) (congrArg nI (by first | exact unl_0 c_37 | exact unl_1 c_37)) ?_
          refine g_istore_n F 3 [(0, .ref (A 0)), (1, .int (nI p0)), (2, .int (nI q0)), (3, .int (nI (unl pl p0 q0 (i + 1)))), (4, .int (nI i))] [1, 2, 3, 0, 4] dX11_unlike_46 rfl (by decide) rfl ?_
          refine g_iinc F (nI (i + 1)) 4 4 [(0, .ref (A 0)), (1, .int (nI p0)), (2, .int (nI q0)), (3, .int (nI (unl pl p0 q0 (i + 1)))), (4, .int (nI (i + 1)))] [1, 2, 3, 4, 0] dX11_unlike_47 rfl (n_inc i) (by decide) rfl ?_
          refine g_goto F 5 dX11_unlike_50 (by decide) ?_
          exact ih_5 (i + 1) (by omega) (by omega)
  exact lp_5 _ 0 (by omega) (Nat.lt_succ_self _)

set_option maxHeartbeats 4000000 in
set_option maxRecDepth 100000 in
theorem c_X11_has (E : Ev) (A : Nat → Nat) (ln : Nat → Int32) (pl : Nat → Int32) (td : Nat → Int32) (zi : Nat → Int32) (rf : Nat → Int32) (rg : Nat → Int32) (co : Nat → Int32) (bs : Nat → Int32) (zt : Nat → Int32) (al : Nat → Int32) (pp : Nat → Int32) (pw : Nat → Int32) (ph : Nat → Int32) (n : Nat) (kd : Nat) (rk : Nat) (ps : Int32) (L : Nat → Nat) (tN : Nat → Nat) (I : Nat → Bool) (p0 : Nat) (v : Int32) (e : Nat) (hK : MDK n kd L ln pl tN td) (hZ : ZI n zi I) (hp : p0 < 60) (he : e ≤ 8) : CTi E yX11_has (wq yX11_has cX11_has 5 (some .boolean)) (rmk 0 0) [.ref (A 0), .int (nI p0), .int v, .int (nI e)] [ob (A 0) 11 [.int (nI n), .int (nI kd), .ref (A 1), .ref (A 2), .ref (A 3), .ref (A 4), .int (nI rk), .ref (A 5), .ref (A 6), .ref (A 7), .ref (A 8), .ref (A 9), .ref (A 10), .ref (A 11), .int ps, .ref (A 12), .ref (A 13)], ia E (A 1) 60 ln, ia E (A 2) 480 pl, ia E (A 3) 3600 td, za E (A 4) 60 zi, ia E (A 5) 60 rf, ia E (A 6) 60 rg, ia E (A 7) 81 co, ia E (A 8) 3 bs, za E (A 9) 60 zt, ia E (A 10) 3600 al, ia E (A 11) 60 pp, ia E (A 12) 60 pw, ia E (A 13) 60 ph] (fun (r : Int32) (u : Unit) => (r = 1 ∧ hsb pl p0 v e = true) ∨ (r = 0 ∧ hsb pl p0 v e = false)) (fun (u : Unit) => [ob (A 0) 11 [.int (nI n), .int (nI kd), .ref (A 1), .ref (A 2), .ref (A 3), .ref (A 4), .int (nI rk), .ref (A 5), .ref (A 6), .ref (A 7), .ref (A 8), .ref (A 9), .ref (A 10), .ref (A 11), .int ps, .ref (A 12), .ref (A 13)], ia E (A 1) 60 ln, ia E (A 2) 480 pl, ia E (A 3) 3600 td, za E (A 4) 60 zi, ia E (A 5) 60 rf, ia E (A 6) 60 rg, ia E (A 7) 81 co, ia E (A 8) 3 bs, za E (A 9) 60 zt, ia E (A 10) 3600 al, ia E (A 11) 60 pp, ia E (A 12) 60 pw, ia E (A 13) 60 ph]) := by
  refine CTi.ofZ (by decide) (Nat.le_of_ble_eq_true rfl) (fun X F R => ?_)
  refine g_lv [0, 1, 2, 3] [(0, .ref (A 0)), (1, .int (nI p0)), (2, .int v), (3, .int (nI e))] rfl ?_
  have hn60 := hK.1
  refine g_iconst F (nI 0) (by decide) dX11_has_0 ?_
  refine g_istore F 4 [(0, .ref (A 0)), (1, .int (nI p0)), (2, .int v), (3, .int (nI e)), (4, .int (nI 0))] [1, 2, 3, 4, 0] dX11_has_1 (by decide) rfl ?_
  have lp_3 : ∀ (n_3 : Nat) (i : Nat), (i ≤ e) → (hsb pl p0 v i = false) → e - i < n_3 → GW E X 0 0 [ob (A 0) 11 [.int (nI n), .int (nI kd), .ref (A 1), .ref (A 2), .ref (A 3), .ref (A 4), .int (nI rk), .ref (A 5), .ref (A 6), .ref (A 7), .ref (A 8), .ref (A 9), .ref (A 10), .ref (A 11), .int ps, .ref (A 12), .ref (A 13)], ia E (A 1) 60 ln, ia E (A 2) 480 pl, ia E (A 3) 3600 td, za E (A 4) 60 zi, ia E (A 5) 60 rf, ia E (A 6) 60 rg, ia E (A 7) 81 co, ia E (A 8) 3 bs, za E (A 9) 60 zt, ia E (A 10) 3600 al, ia E (A 11) 60 pp, ia E (A 12) 60 pw, ia E (A 13) 60 ph] [(0, .ref (A 0)), (1, .int (nI p0)), (2, .int v), (3, .int (nI e)), (4, .int (nI i))] 3 [] := by
    intro n_3
    induction n_3 with
    | zero => intro i hi hf hm_3; exact absurd hm_3 (Nat.not_lt_zero _)
    | succ n_3 ih_3 =>
      intro i hi hf hm_3
      refine g_iload F 4 rfl dX11_has_3 ?_
      refine g_iload_n F 3 rfl dX11_has_5 ?_
      refine n_icmp_ge F 33 dX11_has_6 (by decide) (by omega) (by omega) (fun c_6 => ?_) (fun c_6 => ?_)
      · refine g_iconst F (nI 0) (by decide) dX11_has_33 ?_
        exact R _ (()) _ _ dX11_has_34 (Or.inl rfl) (Or.inr ⟨rfl, by rw [show e = i by omega]; exact hf⟩)
      · refine g_aload_n F 0 rfl dX11_has_9 ?_
        refine g_get F 11 0 3 inX11 rfl rfl (by decide) tw_fl_X11_13 rfl dX11_has_10 ?_
        refine g_bipush F (nI 8) (by decide) dX11_has_13 ?_
        refine g_iload_n F 1 rfl dX11_has_15 ?_
        refine n_mul F dX11_has_16 ?_
        refine g_top (nI (p0 * 8)) (by rw [Nat.mul_comm]) ?_
        refine g_iload F 4 rfl dX11_has_17 ?_
        refine n_add F dX11_has_19 ?_
        refine g_iald F 2 rfl (by omega) (by decide) dX11_has_20 ?_
        refine g_iload_n F 2 rfl dX11_has_21 ?_
        refine g_icmp_ne F 27 dX11_has_22 (by decide) (fun c_22 => ?_) (fun c_22 => ?_)
        · refine g_iinc F (nI (i + 1)) 4 4 [(0, .ref (A 0)), (1, .int (nI p0)), (2, .int v), (3, .int (nI e)), (4, .int (nI (i + 1)))] [1, 2, 3, 4, 0] dX11_has_27 rfl (n_inc i) (by decide) rfl ?_
          refine g_goto F 3 dX11_has_30 (by decide) ?_
          exact ih_3 (i + 1) (by omega) (hsb_no hf c_22) (by omega)
        · refine g_iconst F (nI 1) (by decide) dX11_has_25 ?_
          exact R _ (()) _ _ dX11_has_26 (Or.inr rfl) (Or.inl ⟨rfl, hsb_of c_6 c_22⟩)
  exact lp_3 _ 0 (by omega) (rfl) (Nat.lt_succ_self _)

set_option maxHeartbeats 4000000 in
set_option maxRecDepth 100000 in
theorem c_X11_alone (E : Ev) (A : Nat → Nat) (ln : Nat → Int32) (pl : Nat → Int32) (td : Nat → Int32) (zi : Nat → Int32) (rf : Nat → Int32) (rg : Nat → Int32) (co : Nat → Int32) (bs : Nat → Int32) (zt : Nat → Int32) (al : Nat → Int32) (pp : Nat → Int32) (pw : Nat → Int32) (ph : Nat → Int32) (n : Nat) (kd : Nat) (rk : Nat) (ps : Int32) (L : Nat → Nat) (tN : Nat → Nat) (I : Nat → Bool) (p0 : Nat) (q0 : Nat) (hK : MDK n kd L ln pl tN td) (hZ : ZI n zi I) (hp : p0 < 60) (hq : q0 < 60) : RDi E yX11_alone (wq yX11_alone cX11_alone 6 (some .int)) (rmk 1 24) [.ref (A 0), .int (nI p0), .int (nI q0)] [ob (A 0) 11 [.int (nI n), .int (nI kd), .ref (A 1), .ref (A 2), .ref (A 3), .ref (A 4), .int (nI rk), .ref (A 5), .ref (A 6), .ref (A 7), .ref (A 8), .ref (A 9), .ref (A 10), .ref (A 11), .int ps, .ref (A 12), .ref (A 13)], ia E (A 1) 60 ln, ia E (A 2) 480 pl, ia E (A 3) 3600 td, za E (A 4) 60 zi, ia E (A 5) 60 rf, ia E (A 6) 60 rg, ia E (A 7) 81 co, ia E (A 8) 3 bs, za E (A 9) 60 zt, ia E (A 10) 3600 al, ia E (A 11) 60 pp, ia E (A 12) 60 pw, ia E (A 13) 60 ph] (nI (msn pl L p0 q0 (L p0))) := by
  refine CTi.of (by decide) (Nat.le_of_ble_eq_true rfl) (fun X F R => ?_)
  refine g_lv [0, 1, 2] [(0, .ref (A 0)), (1, .int (nI p0)), (2, .int (nI q0))] rfl ?_
  have hn60 := hK.1
  have hLp := (hK.2.2.1 p0 hp).2
  have hLq := (hK.2.2.1 q0 hq).2
  refine g_iconst F (nI 0) (by decide) dX11_alone_0 ?_
  refine g_istore_n F 3 [(0, .ref (A 0)), (1, .int (nI p0)), (2, .int (nI q0)), (3, .int (nI 0))] [1, 2, 3, 0] dX11_alone_1 rfl (by decide) rfl ?_
  refine g_iconst F (nI 0) (by decide) dX11_alone_2 ?_
  refine g_istore F 4 [(0, .ref (A 0)), (1, .int (nI p0)), (2, .int (nI q0)), (3, .int (nI 0)), (4, .int (nI 0))] [1, 2, 3, 4, 0] dX11_alone_3 (by decide) rfl ?_
  have lp_5 : ∀ (n_5 : Nat) (i : Nat), (i ≤ L p0) → L p0 - i < n_5 → GW E X 0 0 [ob (A 0) 11 [.int (nI n), .int (nI kd), .ref (A 1), .ref (A 2), .ref (A 3), .ref (A 4), .int (nI rk), .ref (A 5), .ref (A 6), .ref (A 7), .ref (A 8), .ref (A 9), .ref (A 10), .ref (A 11), .int ps, .ref (A 12), .ref (A 13)], ia E (A 1) 60 ln, ia E (A 2) 480 pl, ia E (A 3) 3600 td, za E (A 4) 60 zi, ia E (A 5) 60 rf, ia E (A 6) 60 rg, ia E (A 7) 81 co, ia E (A 8) 3 bs, za E (A 9) 60 zt, ia E (A 10) 3600 al, ia E (A 11) 60 pp, ia E (A 12) 60 pw, ia E (A 13) 60 ph] [(0, .ref (A 0)), (1, .int (nI p0)), (2, .int (nI q0)), (3, .int (nI (msn pl L p0 q0 i))), (4, .int (nI i))] 5 [] := by
    intro n_5
    induction n_5 with
    | zero => intro i hi hm_5; exact absurd hm_5 (Nat.not_lt_zero _)
    | succ n_5 ih_5 =>
      intro i hi hm_5
      refine g_iload F 4 rfl dX11_alone_5 ?_
      refine g_aload_n F 0 rfl dX11_alone_7 ?_
      refine g_get F 11 0 2 inX11 rfl rfl (by decide) tw_fl_X11_7 rfl dX11_alone_8 ?_
      refine g_iload_n F 1 rfl dX11_alone_11 ?_
      refine g_iald F 1 rfl (by omega) (by decide) dX11_alone_12 ?_
      refine g_top (nI (L p0)) ((hK.2.2.1 p0 hp).1) ?_
      refine n_icmp_ge F 72 dX11_alone_13 (by decide) (by omega) (by omega) (fun c_13 => ?_) (fun c_13 => ?_)
      · refine g_iload_n F 3 rfl dX11_alone_72 ?_
        exact R _ (()) _ _ dX11_alone_73 (by rw [show i = L p0 by omega])
      · refine g_aload_n F 0 rfl dX11_alone_16 ?_
        refine g_get F 11 0 3 inX11 rfl rfl (by decide) tw_fl_X11_13 rfl dX11_alone_17 ?_
        refine g_bipush F (nI 8) (by decide) dX11_alone_20 ?_
        refine g_iload_n F 1 rfl dX11_alone_22 ?_
        refine n_mul F dX11_alone_23 ?_
        refine g_top (nI (p0 * 8)) (by rw [Nat.mul_comm]) ?_
        refine g_iload F 4 rfl dX11_alone_24 ?_
        refine n_add F dX11_alone_26 ?_
        refine g_iald F 2 rfl (by omega) (by decide) dX11_alone_27 ?_
        refine g_istore F 5 [(0, .ref (A 0)), (1, .int (nI p0)), (2, .int (nI q0)), (3, .int (nI (msn pl L p0 q0 i))), (4, .int (nI i)), (5, .int (pl ((p0 * 8) + i)))] [1, 2, 3, 4, 5, 0] dX11_alone_28 (by decide) rfl ?_
        refine g_iload_n F 3 rfl dX11_alone_30 ?_
        refine g_aload_n F 0 rfl dX11_alone_31 ?_
        refine g_iload_n F 1 rfl dX11_alone_32 ?_
        refine g_iload F 5 rfl dX11_alone_33 ?_
        refine g_iload F 4 rfl dX11_alone_35 ?_
        refine g_cVi F (wr := []) [.int (nI (msn pl L p0 q0 i))] (c_X11_has E A ln pl td zi rf rg co bs zt al pp pw ph n kd rk ps L tN I p0 (pl ((p0 * 8) + i)) i (hK) (hZ) (hp) (by omega)) (gi_V tw_ml_X11_70 tw_im_X11_has tw_se_X11_has tw_in_X11 tw_co_X11_has) 3 rfl (by decide) ⟨rfl, rfl, by decide, by decide, Nat.zero_le _, Nat.zero_le _⟩ 11 0 rfl rfl [0, 1, 2, 3, 4, 5, 6, 7, 8, 9, 10, 11, 12, 13] [] [0, 1, 2, 3, 4, 5, 6, 7, 8, 9, 10, 11, 12, 13] (fun u => [ob (A 0) 11 [.int (nI n), .int (nI kd), .ref (A 1), .ref (A 2), .ref (A 3), .ref (A 4), .int (nI rk), .ref (A 5), .ref (A 6), .ref (A 7), .ref (A 8), .ref (A 9), .ref (A 10), .ref (A 11), .int ps, .ref (A 12), .ref (A 13)], ia E (A 1) 60 ln, ia E (A 2) 480 pl, ia E (A 3) 3600 td, za E (A 4) 60 zi, ia E (A 5) 60 rf, ia E (A 6) 60 rg, ia E (A 7) 81 co, ia E (A 8) 3 bs, za E (A 9) 60 zt, ia E (A 10) 3600 al, ia E (A 11) 60 pp, ia E (A 12) 60 pw, ia E (A 13) 60 ph]) rfl rfl (by decide) (fun _ => rfl) rfl (Nat.le_of_ble_eq_true rfl) dX11_alone_37 (fun r_37 u hu_37 => ?_)
        rcases hu_37 with ⟨rfl, h_37⟩ | ⟨rfl, h_37⟩
        · refine g_if_ne F 63 dX11_alone_40 (by decide) (fun _ => ?_) (fun h => absurd h (by decide))
          refine g_iconst F (nI 0) (by decide) dX11_alone_63 ?_
          refine n_add F dX11_alone_64 ?_
          refine g_top (nI (msn pl L p0 q0 (i + 1))) (congrArg nI (by first | exact (msn_1 h_37 h_53).symm | exact (msn_0 (Or.inl h_37)).symm | exact (msn_0 (Or.inr h_53)).symm)) ?_
          refine g_istore_n F 3 [(0, .ref (A 0)), (1, .int (nI p0)), (2, .int (nI q0)), (3, .int (nI (msn pl L p0 q0 (i + 1)))), (4, .int (nI i)), (5, .int (pl ((p0 * 8) + i)))] [1, 2, 3, 0, 4, 5] dX11_alone_65 rfl (by decide) rfl ?_
          refine g_iinc F (nI (i + 1)) 4 4 [(0, .ref (A 0)), (1, .int (nI p0)), (2, .int (nI q0)), (3, .int (nI (msn pl L p0 q0 (i + 1)))), (4, .int (nI (i + 1))), (5, .int (pl ((p0 * 8) + i)))] [1, 2, 3, 4, 0, 5] dX11_alone_66 rfl (n_inc i) (by decide) rfl ?_
          refine g_goto F 5 dX11_alone_69 (by decide) ?_
          refine g_lv [0, 1, 2, 3, 4] [(0, .ref (A 0)), (1, .int (nI p0)), (2, .int (nI q0)), (3, .int (nI (msn pl L p0 q0 (i + 1)))), (4, .int (nI (i + 1)))] rfl ?_
          exact ih_5 (i + 1) (by omega) (by omega)
        · refine g_if_ne F 63 dX11_alone_40 (by decide) (fun h => absurd (by decide) h) (fun _ => ?_)
          refine g_aload_n F 0 rfl dX11_alone_43 ?_
          refine g_iload_n F 2 rfl dX11_alone_44 ?_
          refine g_iload F 5 rfl dX11_alone_45 ?_
          refine g_aload_n F 0 rfl dX11_alone_47 ?_
          refine g_get F 11 0 2 inX11 rfl rfl (by decide) tw_fl_X11_7 rfl dX11_alone_48 ?_
          refine g_iload_n F 2 rfl dX11_alone_51 ?_
          refine g_iald F 1 rfl (by omega) (by decide) dX11_alone_52 ?_
          refine g_top (nI (L q0)) ((hK.2.2.1 q0 hq).1) ?_
          refine g_cVi F (wr := []) [.int (nI (msn pl L p0 q0 i))] (c_X11_has E A ln pl td zi rf rg co bs zt al pp pw ph n kd rk ps L tN I q0 (pl ((p0 * 8) + i)) (L q0) (hK) (hZ) (hq) (by omega)) (gi_V tw_ml_X11_70 tw_im_X11_has tw_se_X11_has tw_in_X11 tw_co_X11_has) 3 rfl (by decide) ⟨rfl, rfl, by decide, by decide, Nat.zero_le _, Nat.zero_le _⟩ 11 0 rfl rfl [0, 1, 2, 3, 4, 5, 6, 7, 8, 9, 10, 11, 12, 13] [] [0, 1, 2, 3, 4, 5, 6, 7, 8, 9, 10, 11, 12, 13] (fun u => [ob (A 0) 11 [.int (nI n), .int (nI kd), .ref (A 1), .ref (A 2), .ref (A 3), .ref (A 4), .int (nI rk), .ref (A 5), .ref (A 6), .ref (A 7), .ref (A 8), .ref (A 9), .ref (A 10), .ref (A 11), .int ps, .ref (A 12), .ref (A 13)], ia E (A 1) 60 ln, ia E (A 2) 480 pl, ia E (A 3) 3600 td, za E (A 4) 60 zi, ia E (A 5) 60 rf, ia E (A 6) 60 rg, ia E (A 7) 81 co, ia E (A 8) 3 bs, za E (A 9) 60 zt, ia E (A 10) 3600 al, ia E (A 11) 60 pp, ia E (A 12) 60 pw, ia E (A 13) 60 ph]) rfl rfl (by decide) (fun _ => rfl) rfl (Nat.le_of_ble_eq_true rfl) dX11_alone_53 (fun r_53 u hu_53 => ?_)
          rcases hu_53 with ⟨rfl, h_53⟩ | ⟨rfl, h_53⟩
          · refine g_if_ne F 63 dX11_alone_56 (by decide) (fun _ => ?_) (fun h => absurd h (by decide))
            refine g_iconst F (nI 0) (by decide) dX11_alone_63 ?_
            refine n_add F dX11_alone_64 ?_
            refine g_top (nI (msn pl L p0 q0 (i + 1))) (congrArg nI (by first | exact (msn_1 h_37 h_53).symm | exact (msn_0 (Or.inl h_37)).symm | exact (msn_0 (Or.inr h_53)).symm)) ?_
            refine g_istore_n F 3 [(0, .ref (A 0)), (1, .int (nI p0)), (2, .int (nI q0)), (3, .int (nI (msn pl L p0 q0 (i + 1)))), (4, .int (nI i)), (5, .int (pl ((p0 * 8) + i)))] [1, 2, 3, 0, 4, 5] dX11_alone_65 rfl (by decide) rfl ?_
            refine g_iinc F (nI (i + 1)) 4 4 [(0, .ref (A 0)), (1, .int (nI p0)), (2, .int (nI q0)), (3, .int (nI (msn pl L p0 q0 (i + 1)))), (4, .int (nI (i + 1))), (5, .int (pl ((p0 * 8) + i)))] [1, 2, 3, 4, 0, 5] dX11_alone_66 rfl (n_inc i) (by decide) rfl ?_
            refine g_goto F 5 dX11_alone_69 (by decide) ?_
            refine g_lv [0, 1, 2, 3, 4] [(0, .ref (A 0)), (1, .int (nI p0)), (2, .int (nI q0)), (3, .int (nI (msn pl L p0 q0 (i + 1)))), (4, .int (nI (i + 1)))] rfl ?_
            exact ih_5 (i + 1) (by omega) (by omega)
          · refine g_if_ne F 63 dX11_alone_56 (by decide) (fun h => absurd (by decide) h) (fun _ => ?_)
            refine g_iconst F (nI 1) (by decide) dX11_alone_59 ?_
            refine g_goto F 64 dX11_alone_60 (by decide) ?_
            refine n_add F dX11_alone_64 ?_
            refine g_top (nI (msn pl L p0 q0 (i + 1))) (congrArg nI (by first | exact (msn_1 h_37 h_53).symm | exact (msn_0 (Or.inl h_37)).symm | exact (msn_0 (Or.inr h_53)).symm)) ?_
            refine g_istore_n F 3 [(0, .ref (A 0)), (1, .int (nI p0)), (2, .int (nI q0)), (3, .int (nI (msn pl L p0 q0 (i + 1)))), (4, .int (nI i)), (5, .int (pl ((p0 * 8) + i)))] [1, 2, 3, 0, 4, 5] dX11_alone_65 rfl (by decide) rfl ?_
            refine g_iinc F (nI (i + 1)) 4 4 [(0, .ref (A 0)), (1, .int (nI p0)), (2, .int (nI q0)), (3, .int (nI (msn pl L p0 q0 (i + 1)))), (4, .int (nI (i + 1))), (5, .int (pl ((p0 * 8) + i)))] [1, 2, 3, 4, 0, 5] dX11_alone_66 rfl (n_inc i) (by decide) rfl ?_
            refine g_goto F 5 dX11_alone_69 (by decide) ?_
            refine g_lv [0, 1, 2, 3, 4] [(0, .ref (A 0)), (1, .int (nI p0)), (2, .int (nI q0)), (3, .int (nI (msn pl L p0 q0 (i + 1)))), (4, .int (nI (i + 1)))] rfl ?_
            exact ih_5 (i + 1) (by omega) (by omega)
  exact lp_5 _ 0 (by omega) (Nat.lt_succ_self _)

set_option maxHeartbeats 4000000 in
set_option maxRecDepth 100000 in
theorem c_X11_edits (E : Ev) (A : Nat → Nat) (ln : Nat → Int32) (pl : Nat → Int32) (td : Nat → Int32) (zi : Nat → Int32) (rf : Nat → Int32) (rg : Nat → Int32) (co : Nat → Int32) (bs : Nat → Int32) (zt : Nat → Int32) (al : Nat → Int32) (pp : Nat → Int32) (pw : Nat → Int32) (ph : Nat → Int32) (n : Nat) (kd : Nat) (rk : Nat) (ps : Int32) (L : Nat → Nat) (tN : Nat → Nat) (I : Nat → Bool) (p0 : Nat) (q0 : Nat) (hK : MDK n kd L ln pl tN td) (hZ : ZI n zi I) (hp : p0 < 60) (hq : q0 < 60) : CTi E yX11_edits (wq yX11_edits cX11_edits 6 (some .int)) (rmk 1 21) [.ref (A 0), .int (nI p0), .int (nI q0)] [ob (A 0) 11 [.int (nI n), .int (nI kd), .ref (A 1), .ref (A 2), .ref (A 3), .ref (A 4), .int (nI rk), .ref (A 5), .ref (A 6), .ref (A 7), .ref (A 8), .ref (A 9), .ref (A 10), .ref (A 11), .int ps, .ref (A 12), .ref (A 13)], ia E (A 1) 60 ln, ia E (A 2) 480 pl, ia E (A 3) 3600 td, za E (A 4) 60 zi, ia E (A 5) 60 rf, ia E (A 6) 60 rg, ia E (A 7) 81 co, ia E (A 8) 3 bs, za E (A 9) 60 zt, ia E (A 10) 3600 al, ia E (A 11) 60 pp, ia E (A 12) 60 pw, ia E (A 13) 60 ph] (fun (r : Int32) (u : (Nat → Int32)) => r = nI (edN pl p0 q0 (L p0) (L q0))) (fun (u : (Nat → Int32)) => [ob (A 0) 11 [.int (nI n), .int (nI kd), .ref (A 1), .ref (A 2), .ref (A 3), .ref (A 4), .int (nI rk), .ref (A 5), .ref (A 6), .ref (A 7), .ref (A 8), .ref (A 9), .ref (A 10), .ref (A 11), .int ps, .ref (A 12), .ref (A 13)], ia E (A 1) 60 ln, ia E (A 2) 480 pl, ia E (A 3) 3600 td, za E (A 4) 60 zi, ia E (A 5) 60 rf, ia E (A 6) 60 rg, ia E (A 7) 81 u, ia E (A 8) 3 bs, za E (A 9) 60 zt, ia E (A 10) 3600 al, ia E (A 11) 60 pp, ia E (A 12) 60 pw, ia E (A 13) 60 ph]) := by
  refine CTi.of (by decide) (Nat.le_of_ble_eq_true rfl) (fun X F R => ?_)
  refine g_lv [0, 1, 2] [(0, .ref (A 0)), (1, .int (nI p0)), (2, .int (nI q0))] rfl ?_
  have hn60 := hK.1
  have hLp := (hK.2.2.1 p0 hp).2
  have hLq := (hK.2.2.1 q0 hq).2
  have hed := fun (i j : Nat) => ed_le pl p0 q0 i j
  refine g_iconst F (nI 0) (by decide) dX11_edits_0 ?_
  refine g_istore_n F 3 [(0, .ref (A 0)), (1, .int (nI p0)), (2, .int (nI q0)), (3, .int (nI 0))] [1, 2, 3, 0] dX11_edits_1 rfl (by decide) rfl ?_
  have lp_2 : ∀ (n_2 : Nat) (i : Nat) (g : Nat → Int32), (i ≤ L p0 + 1) → (∀ x y, x < i → y ≤ L q0 → g (x * 9 + y) = nI (edN pl p0 q0 x y)) → L p0 + 1 - i < n_2 → GW E X 0 0 [ob (A 0) 11 [.int (nI n), .int (nI kd), .ref (A 1), .ref (A 2), .ref (A 3), .ref (A 4), .int (nI rk), .ref (A 5), .ref (A 6), .ref (A 7), .ref (A 8), .ref (A 9), .ref (A 10), .ref (A 11), .int ps, .ref (A 12), .ref (A 13)], ia E (A 1) 60 ln, ia E (A 2) 480 pl, ia E (A 3) 3600 td, za E (A 4) 60 zi, ia E (A 5) 60 rf, ia E (A 6) 60 rg, ia E (A 7) 81 g, ia E (A 8) 3 bs, za E (A 9) 60 zt, ia E (A 10) 3600 al, ia E (A 11) 60 pp, ia E (A 12) 60 pw, ia E (A 13) 60 ph] [(0, .ref (A 0)), (1, .int (nI p0)), (2, .int (nI q0)), (3, .int (nI i))] 2 [] := by
    intro n_2
    induction n_2 with
    | zero => intro i g hi hg hm_2; exact absurd hm_2 (Nat.not_lt_zero _)
    | succ n_2 ih_2 =>
      intro i g hi hg hm_2
      refine g_iload_n F 3 rfl dX11_edits_2 ?_
      refine g_aload_n F 0 rfl dX11_edits_3 ?_
      refine g_get F 11 0 2 inX11 rfl rfl (by decide) tw_fl_X11_7 rfl dX11_edits_4 ?_
      refine g_iload_n F 1 rfl dX11_edits_7 ?_
      refine g_iald F 1 rfl (by omega) (by decide) dX11_edits_8 ?_
      refine g_top (nI (L p0)) ((hK.2.2.1 p0 hp).1) ?_
      refine n_icmp_gt F 170 dX11_edits_9 (by decide) (by omega) (by omega) (fun c_9 => ?_) (fun c_9 => ?_)
      · refine g_aload_n F 0 rfl dX11_edits_170 ?_
        refine g_get F 11 0 9 inX11 rfl rfl (by decide) tw_fl_X11_29 rfl dX11_edits_171 ?_
        refine g_bipush F (nI 9) (by decide) dX11_edits_174 ?_
        refine g_aload_n F 0 rfl dX11_edits_176 ?_
        refine g_get F 11 0 2 inX11 rfl rfl (by decide) tw_fl_X11_7 rfl dX11_edits_177 ?_
        refine g_iload_n F 1 rfl dX11_edits_180 ?_
        refine g_iald F 1 rfl (by omega) (by decide) dX11_edits_181 ?_
        refine g_top (nI (L p0)) ((hK.2.2.1 p0 hp).1) ?_
        refine n_mul F dX11_edits_182 ?_
        refine g_top (nI ((L p0) * 9)) (by rw [Nat.mul_comm]) ?_
        refine g_aload_n F 0 rfl dX11_edits_183 ?_
        refine g_get F 11 0 2 inX11 rfl rfl (by decide) tw_fl_X11_7 rfl dX11_edits_184 ?_
        refine g_iload_n F 2 rfl dX11_edits_187 ?_
        refine g_iald F 1 rfl (by omega) (by decide) dX11_edits_188 ?_
        refine g_top (nI (L q0)) ((hK.2.2.1 q0 hq).1) ?_
        refine n_add F dX11_edits_189 ?_
        refine g_iald F 7 rfl (by omega) (by decide) dX11_edits_190 ?_
        exact R _ g _ _ dX11_edits_191 (by rw [hg (L p0) (L q0) (by omega) (Nat.le_refl _)])
      · refine g_iconst F (nI 0) (by decide) dX11_edits_12 ?_
        refine g_istore F 4 [(0, .ref (A 0)), (1, .int (nI p0)), (2, .int (nI q0)), (3, .int (nI i)), (4, .int (nI 0))] [1, 2, 3, 4, 0] dX11_edits_13 (by decide) rfl ?_
        have lp_15 : ∀ (n_15 : Nat) (j : Nat) (g2 : Nat → Int32), (j ≤ L q0 + 1) → (∀ x y, (x < i ∨ (x = i ∧ y < j)) → y ≤ L q0 → g2 (x * 9 + y) = nI (edN pl p0 q0 x y)) → L q0 + 1 - j < n_15 → GW E X 0 0 [ob (A 0) 11 [.int (nI n), .int (nI kd), .ref (A 1), .ref (A 2), .ref (A 3), .ref (A 4), .int (nI rk), .ref (A 5), .ref (A 6), .ref (A 7), .ref (A 8), .ref (A 9), .ref (A 10), .ref (A 11), .int ps, .ref (A 12), .ref (A 13)], ia E (A 1) 60 ln, ia E (A 2) 480 pl, ia E (A 3) 3600 td, za E (A 4) 60 zi, ia E (A 5) 60 rf, ia E (A 6) 60 rg, ia E (A 7) 81 g2, ia E (A 8) 3 bs, za E (A 9) 60 zt, ia E (A 10) 3600 al, ia E (A 11) 60 pp, ia E (A 12) 60 pw, ia E (A 13) 60 ph] [(0, .ref (A 0)), (1, .int (nI p0)), (2, .int (nI q0)), (3, .int (nI i)), (4, .int (nI j))] 15 [] := by
          intro n_15
          induction n_15 with
          | zero => intro j g2 hj hg2 hm_15; exact absurd hm_15 (Nat.not_lt_zero _)
          | succ n_15 ih_15 =>
            intro j g2 hj hg2 hm_15
            refine g_iload F 4 rfl dX11_edits_15 ?_
            refine g_aload_n F 0 rfl dX11_edits_17 ?_
            refine g_get F 11 0 2 inX11 rfl rfl (by decide) tw_fl_X11_7 rfl dX11_edits_18 ?_
            refine g_iload_n F 2 rfl dX11_edits_21 ?_
            refine g_iald F 1 rfl (by omega) (by decide) dX11_edits_22 ?_
            refine g_top (nI (L q0)) ((hK.2.2.1 q0 hq).1) ?_
            refine n_icmp_gt F 164 dX11_edits_23 (by decide) (by omega) (by omega) (fun c_23 => ?_) (fun c_23 => ?_)
            · refine g_iinc F (nI (i + 1)) 3 3 [(0, .ref (A 0)), (1, .int (nI p0)), (2, .int (nI q0)), (3, .int (nI (i + 1))), (4, .int (nI j))] [1, 2, 3, 0, 4] dX11_edits_164 rfl (n_inc i) (by decide) rfl ?_
              refine g_goto F 2 dX11_edits_167 (by decide) ?_
              refine g_lv [0, 1, 2, 3] [(0, .ref (A 0)), (1, .int (nI p0)), (2, .int (nI q0)), (3, .int (nI (i + 1)))] rfl ?_
              exact ih_2 (i + 1) g2 (by omega) (fun x y h1 h2 => (Nat.lt_or_ge x i).elim (fun z => hg2 x y (Or.inl z) h2) (fun z => hg2 x y (Or.inr ⟨by omega, by omega⟩) h2)) (by omega)
            · refine g_iload_n F 3 rfl dX11_edits_26 ?_
              refine n_if_eq F 35 dX11_edits_27 (by decide) (by omega) (fun c_27 => ?_) (fun c_27 => ?_)
              · refine g_aload_n F 0 rfl dX11_edits_35 ?_
                refine g_get F 11 0 9 inX11 rfl rfl (by decide) tw_fl_X11_29 rfl dX11_edits_36 ?_
                refine g_bipush F (nI 9) (by decide) dX11_edits_39 ?_
                refine g_iload_n F 3 rfl dX11_edits_41 ?_
                refine n_mul F dX11_edits_42 ?_
                refine g_top (nI (i * 9)) (by rw [Nat.mul_comm]) ?_
                refine g_iload F 4 rfl dX11_edits_43 ?_
                refine n_add F dX11_edits_45 ?_
                refine g_iload_n F 3 rfl dX11_edits_46 ?_
                refine g_iload F 4 rfl dX11_edits_47 ?_
                refine n_add F dX11_edits_49 ?_
                refine g_iast F 7 [ob (A 0) 11 [.int (nI n), .int (nI kd), .ref (A 1), .ref (A 2), .ref (A 3), .ref (A 4), .int (nI rk), .ref (A 5), .ref (A 6), .ref (A 7), .ref (A 8), .ref (A 9), .ref (A 10), .ref (A 11), .int ps, .ref (A 12), .ref (A 13)], ia E (A 1) 60 ln, ia E (A 2) 480 pl, ia E (A 3) 3600 td, za E (A 4) 60 zi, ia E (A 5) 60 rf, ia E (A 6) 60 rg, ia E (A 7) 81 (upd g2 ((i * 9) + j) (nI (i + j))), ia E (A 8) 3 bs, za E (A 9) 60 zt, ia E (A 10) 3600 al, ia E (A 11) 60 pp, ia E (A 12) 60 pw, ia E (A 13) 60 ph] rfl (by omega) (by decide) rfl dX11_edits_50 ?_
                refine g_goto F 158 dX11_edits_51 (by decide) ?_
                refine g_iinc F (nI (j + 1)) 4 4 [(0, .ref (A 0)), (1, .int (nI p0)), (2, .int (nI q0)), (3, .int (nI i)), (4, .int (nI (j + 1)))] [1, 2, 3, 4, 0] dX11_edits_158 rfl (n_inc j) (by decide) rfl ?_
                refine g_goto F 15 dX11_edits_161 (by decide) ?_
                exact ih_15 (j + 1) (upd g2 ((i * 9) + j) (nI (i + j))) (by omega) (fun x y h1 h2 => by
                    by_cases c : x = i ∧ y = j
                    · rw [c.1, c.2, pk_us]
                      rcases Nat.eq_zero_or_pos i with q | q
                      · subst q; rw [Nat.zero_add]; rfl
                      · first
                        | (rw [c_27]; rw [Nat.zero_add]; rfl)
                        | (rw [c_32, ed_0]; rfl)
                    · exact (pk_un (by omega)).trans (hg2 x y (by omega) h2)) (by omega)
              · refine g_iload F 4 rfl dX11_edits_30 ?_
                refine n_if_ne F 54 dX11_edits_32 (by decide) (by omega) (fun c_32 => ?_) (fun c_32 => ?_)
                · obtain ⟨i1, rfl⟩ : ∃ z, i = z + 1 := ⟨i - 1, by omega⟩
                  obtain ⟨j1, rfl⟩ : ∃ z, j = z + 1 := ⟨j - 1, by omega⟩
                  refine g_aload_n F 0 rfl dX11_edits_54 ?_
                  refine g_get F 11 0 9 inX11 rfl rfl (by decide) tw_fl_X11_29 rfl dX11_edits_55 ?_
                  refine g_bipush F (nI 9) (by decide) dX11_edits_58 ?_
                  refine g_iload_n F 3 rfl dX11_edits_60 ?_
                  refine n_mul F dX11_edits_61 ?_
                  refine g_top (nI ((i1 + 1) * 9)) (by rw [Nat.mul_comm]) ?_
                  refine g_iload F 4 rfl dX11_edits_62 ?_
                  refine n_add F dX11_edits_64 ?_
                  refine g_bipush F (nI 10) (by decide) dX11_edits_65 ?_
                  refine n_sub F (by omega) dX11_edits_67 ?_
                  refine g_top (nI (i1 * 9 + j1)) (congrArg nI (by omega)) ?_
                  refine g_iald F 7 rfl (by omega) (by decide) dX11_edits_68 ?_
                  refine g_top (nI (edN pl p0 q0 i1 j1)) (hg2 i1 j1 (by omega) (by omega)) ?_
                  refine g_aload_n F 0 rfl dX11_edits_69 ?_
                  refine g_get F 11 0 3 inX11 rfl rfl (by decide) tw_fl_X11_13 rfl dX11_edits_70 ?_
                  refine g_bipush F (nI 8) (by decide) dX11_edits_73 ?_
                  refine g_iload_n F 1 rfl dX11_edits_75 ?_
                  refine n_mul F dX11_edits_76 ?_
                  refine g_top (nI (p0 * 8)) (by rw [Nat.mul_comm]) ?_
                  refine g_iload_n F 3 rfl dX11_edits_77 ?_
                  refine n_add F dX11_edits_78 ?_
                  refine g_iconst F (nI 1) (by decide) dX11_edits_79 ?_
                  refine n_sub F (by omega) dX11_edits_80 ?_
                  refine g_top (nI (p0 * 8 + i1)) (congrArg nI (by omega)) ?_
                  refine g_iald F 2 rfl (by omega) (by decide) dX11_edits_81 ?_
                  refine g_aload_n F 0 rfl dX11_edits_82 ?_
                  refine g_get F 11 0 3 inX11 rfl rfl (by decide) tw_fl_X11_13 rfl dX11_edits_83 ?_
                  refine g_bipush F (nI 8) (by decide) dX11_edits_86 ?_
                  refine g_iload_n F 2 rfl dX11_edits_88 ?_
                  refine n_mul F dX11_edits_89 ?_
                  refine g_top (nI (q0 * 8)) (by rw [Nat.mul_comm]) ?_
                  refine g_iload F 4 rfl dX11_edits_90 ?_
                  refine n_add F dX11_edits_92 ?_
                  refine g_iconst F (nI 1) (by decide) dX11_edits_93 ?_
                  refine n_sub F (by omega) dX11_edits_94 ?_
                  refine g_top (nI (q0 * 8 + j1)) (congrArg nI (by omega)) ?_
                  refine g_iald F 2 rfl (by omega) (by decide) dX11_edits_95 ?_
                  refine g_icmp_ne F 103 dX11_edits_96 (by decide) (fun c_96 => ?_) (fun c_96 => ?_)
                  · refine g_iconst F (nI 1) (by decide) dX11_edits_103 ?_
                    refine n_add F dX11_edits_104 ?_
                    refine g_istore F 5 [(0, .ref (A 0)), (1, .int (nI p0)), (2, .int (nI q0)), (3, .int (nI (i1 + 1))), (4, .int (nI (j1 + 1))), (5, .int (nI ((edN pl p0 q0 i1 j1) + 1)))] [1, 2, 3, 4, 5, 0] dX11_edits_105 (by decide) rfl ?_
                    refine g_aload_n F 0 rfl dX11_edits_107 ?_
                    refine g_get F 11 0 9 inX11 rfl rfl (by decide) tw_fl_X11_29 rfl dX11_edits_108 ?_
                    refine g_bipush F (nI 9) (by decide) dX11_edits_111 ?_
                    refine g_iload_n F 3 rfl dX11_edits_113 ?_
                    refine n_mul F dX11_edits_114 ?_
                    refine g_top (nI ((i1 + 1) * 9)) (by rw [Nat.mul_comm]) ?_
                    refine g_iload F 4 rfl dX11_edits_115 ?_
                    refine n_add F dX11_edits_117 ?_
                    refine g_iload F 5 rfl dX11_edits_118 ?_
                    refine g_iconst F (nI 1) (by decide) dX11_edits_120 ?_
                    refine g_aload_n F 0 rfl dX11_edits_121 ?_
                    refine g_get F 11 0 9 inX11 rfl rfl (by decide) tw_fl_X11_29 rfl dX11_edits_122 ?_
                    refine g_bipush F (nI 9) (by decide) dX11_edits_125 ?_
                    refine g_iload_n F 3 rfl dX11_edits_127 ?_
                    refine n_mul F dX11_edits_128 ?_
                    refine g_top (nI ((i1 + 1) * 9)) (by rw [Nat.mul_comm]) ?_
                    refine g_iload F 4 rfl dX11_edits_129 ?_
                    refine n_add F dX11_edits_131 ?_
                    refine g_bipush F (nI 9) (by decide) dX11_edits_132 ?_
                    refine n_sub F (by omega) dX11_edits_134 ?_
                    refine g_top (nI (i1 * 9 + (j1 + 1))) (congrArg nI (by omega)) ?_
                    refine g_iald F 7 rfl (by omega) (by decide) dX11_edits_135 ?_
                    refine g_top (nI (edN pl p0 q0 i1 (j1 + 1))) (hg2 i1 (j1 + 1) (by omega) (by omega)) ?_
                    refine g_aload_n F 0 rfl dX11_edits_136 ?_
                    refine g_get F 11 0 9 inX11 rfl rfl (by decide) tw_fl_X11_29 rfl dX11_edits_137 ?_
                    refine g_bipush F (nI 9) (by decide) dX11_edits_140 ?_
                    refine g_iload_n F 3 rfl dX11_edits_142 ?_
                    refine n_mul F dX11_edits_143 ?_
                    refine g_top (nI ((i1 + 1) * 9)) (by rw [Nat.mul_comm]) ?_
                    refine g_iload F 4 rfl dX11_edits_144 ?_
                    refine n_add F dX11_edits_146 ?_
                    refine g_iconst F (nI 1) (by decide) dX11_edits_147 ?_
                    refine n_sub F (by omega) dX11_edits_148 ?_
                    refine g_top (nI ((i1 + 1) * 9 + j1)) (congrArg nI (by omega)) ?_
                    refine g_iald F 7 rfl (by omega) (by decide) dX11_edits_149 ?_
                    refine g_top (nI (edN pl p0 q0 (i1 + 1) j1)) (hg2 (i1 + 1) j1 (by omega) (by omega)) ?_
                    refine g_rSi F (wr := [ob (A 0) 11 [.int (nI n), .int (nI kd), .ref (A 1), .ref (A 2), .ref (A 3), .ref (A 4), .int (nI rk), .ref (A 5), .ref (A 6), .ref (A 7), .ref (A 8), .ref (A 9), .ref (A 10), .ref (A 11), .int ps, .ref (A 12), .ref (A 13)], ia E (A 1) 60 ln, ia E (A 2) 480 pl, ia E (A 3) 3600 td, za E (A 4) 60 zi, ia E (A 5) 60 rf, ia E (A 6) 60 rg, ia E (A 7) 81 g2, ia E (A 8) 3 bs, za E (A 9) 60 zt, ia E (A 10) 3600 al, ia E (A 11) 60 pp, ia E (A 12) 60 pw, ia E (A 13) 60 ph]) [.int (nI 1), .int (nI ((edN pl p0 q0 i1 j1) + 1)), .int (nI (((i1 + 1) * 9) + (j1 + 1))), .ref (A 7)] (c_X11_least E (edN pl p0 q0 i1 (j1 + 1)) (edN pl p0 q0 (i1 + 1) j1) (by have := hed i1 (j1 + 1); omega) (by have := hed (i1 + 1) j1; omega)) ⟨tw_ml_X11_66, tw_sm_X11_least, tw_in_X11, tw_co_X11_least⟩ 2 rfl (by decide) ⟨rfl, rfl, by decide, by decide, Nat.zero_le _, Nat.zero_le _⟩ [] [0, 1, 2, 3, 4, 5, 6, 7, 8, 9, 10, 11, 12, 13] [0, 1, 2, 3, 4, 5, 6, 7, 8, 9, 10, 11, 12, 13] rfl rfl (by decide) rfl rfl (Nat.le_of_ble_eq_true rfl) dX11_edits_150 ?_
                    refine n_add F dX11_edits_153 ?_
                    refine g_rSi F (wr := [ob (A 0) 11 [.int (nI n), .int (nI kd), .ref (A 1), .ref (A 2), .ref (A 3), .ref (A 4), .int (nI rk), .ref (A 5), .ref (A 6), .ref (A 7), .ref (A 8), .ref (A 9), .ref (A 10), .ref (A 11), .int ps, .ref (A 12), .ref (A 13)], ia E (A 1) 60 ln, ia E (A 2) 480 pl, ia E (A 3) 3600 td, za E (A 4) 60 zi, ia E (A 5) 60 rf, ia E (A 6) 60 rg, ia E (A 7) 81 g2, ia E (A 8) 3 bs, za E (A 9) 60 zt, ia E (A 10) 3600 al, ia E (A 11) 60 pp, ia E (A 12) 60 pw, ia E (A 13) 60 ph]) [.int (nI (((i1 + 1) * 9) + (j1 + 1))), .ref (A 7)] (c_X11_least E ((edN pl p0 q0 i1 j1) + 1) (1 + (Nat.min (edN pl p0 q0 i1 (j1 + 1)) (edN pl p0 q0 (i1 + 1) j1))) (by have := hed i1 j1; omega) (ed_b2 (by omega) (by omega))) ⟨tw_ml_X11_66, tw_sm_X11_least, tw_in_X11, tw_co_X11_least⟩ 2 rfl (by decide) ⟨rfl, rfl, by decide, by decide, Nat.zero_le _, Nat.zero_le _⟩ [] [0, 1, 2, 3, 4, 5, 6, 7, 8, 9, 10, 11, 12, 13] [0, 1, 2, 3, 4, 5, 6, 7, 8, 9, 10, 11, 12, 13] rfl rfl (by decide) rfl rfl (Nat.le_of_ble_eq_true rfl) dX11_edits_154 ?_
                    refine g_iast F 7 [ob (A 0) 11 [.int (nI n), .int (nI kd), .ref (A 1), .ref (A 2), .ref (A 3), .ref (A 4), .int (nI rk), .ref (A 5), .ref (A 6), .ref (A 7), .ref (A 8), .ref (A 9), .ref (A 10), .ref (A 11), .int ps, .ref (A 12), .ref (A 13)], ia E (A 1) 60 ln, ia E (A 2) 480 pl, ia E (A 3) 3600 td, za E (A 4) 60 zi, ia E (A 5) 60 rf, ia E (A 6) 60 rg, ia E (A 7) 81 (upd g2 (((i1 + 1) * 9) + (j1 + 1)) (nI (Nat.min ((edN pl p0 q0 i1 j1) + 1) (1 + (Nat.min (edN pl p0 q0 i1 (j1 + 1)) (edN pl p0 q0 (i1 + 1) j1)))))), ia E (A 8) 3 bs, za E (A 9) 60 zt, ia E (A 10) 3600 al, ia E (A 11) 60 pp, ia E (A 12) 60 pw, ia E (A 13) 60 ph] rfl (by omega) (by decide) rfl dX11_edits_157 ?_
                    refine g_iinc F (nI ((j1 + 1) + 1)) 4 4 [(0, .ref (A 0)), (1, .int (nI p0)), (2, .int (nI q0)), (3, .int (nI (i1 + 1))), (4, .int (nI ((j1 + 1) + 1))), (5, .int (nI ((edN pl p0 q0 i1 j1) + 1)))] [1, 2, 3, 4, 0, 5] dX11_edits_158 rfl (n_inc (j1 + 1)) (by decide) rfl ?_
                    refine g_goto F 15 dX11_edits_161 (by decide) ?_
                    refine g_lv [0, 1, 2, 3, 4] [(0, .ref (A 0)), (1, .int (nI p0)), (2, .int (nI q0)), (3, .int (nI (i1 + 1))), (4, .int (nI ((j1 + 1) + 1)))] rfl ?_
                    exact ih_15 (j1 + 1 + 1) (upd g2 (((i1 + 1) * 9) + (j1 + 1)) (nI (Nat.min ((edN pl p0 q0 i1 j1) + 1) (1 + (Nat.min (edN pl p0 q0 i1 (j1 + 1)) (edN pl p0 q0 (i1 + 1) j1)))))) (by omega) (fun x y h1 h2 => by
                        by_cases c : x = i1 + 1 ∧ y = j1 + 1
                        · rw [c.1, c.2, pk_us]
                          first
                          | rw [ed_c0 c_96]
                          | rw [ed_c1 c_96]
                        · exact (pk_un (by omega)).trans (hg2 x y (by omega) h2)) (by omega)
                  · refine g_iconst F (nI 0) (by decide) dX11_edits_99 ?_
                    refine g_goto F 104 dX11_edits_100 (by decide) ?_
                    refine n_add F dX11_edits_104 ?_
                    refine g_istore F 5 [(0, .ref (A 0)), (1, .int (nI p0)), (2, .int (nI q0)), (3, .int (nI (i1 + 1))), (4, .int (nI (j1 + 1))), (5, .int (nI ((edN pl p0 q0 i1 j1) + 0)))] [1, 2, 3, 4, 5, 0] dX11_edits_105 (by decide) rfl ?_
                    refine g_aload_n F 0 rfl dX11_edits_107 ?_
                    refine g_get F 11 0 9 inX11 rfl rfl (by decide) tw_fl_X11_29 rfl dX11_edits_108 ?_
                    refine g_bipush F (nI 9) (by decide) dX11_edits_111 ?_
                    refine g_iload_n F 3 rfl dX11_edits_113 ?_
                    refine n_mul F dX11_edits_114 ?_
                    refine g_top (nI ((i1 + 1) * 9)) (by rw [Nat.mul_comm]) ?_
                    refine g_iload F 4 rfl dX11_edits_115 ?_
                    refine n_add F dX11_edits_117 ?_
                    refine g_iload F 5 rfl dX11_edits_118 ?_
                    refine g_iconst F (nI 1) (by decide) dX11_edits_120 ?_
                    refine g_aload_n F 0 rfl dX11_edits_121 ?_
                    refine g_get F 11 0 9 inX11 rfl rfl (by decide) tw_fl_X11_29 rfl dX11_edits_122 ?_
                    refine g_bipush F (nI 9) (by decide) dX11_edits_125 ?_
                    refine g_iload_n F 3 rfl dX11_edits_127 ?_
                    refine n_mul F dX11_edits_128 ?_
                    refine g_top (nI ((i1 + 1) * 9)) (by rw [Nat.mul_comm]) ?_
                    refine g_iload F 4 rfl dX11_edits_129 ?_
                    refine n_add F dX11_edits_131 ?_
                    refine g_bipush F (nI 9) (by decide) dX11_edits_132 ?_
                    refine n_sub F (by omega) dX11_edits_134 ?_
                    refine g_top (nI (i1 * 9 + (j1 + 1))) (congrArg nI (by omega)) ?_
                    refine g_iald F 7 rfl (by omega) (by decide) dX11_edits_135 ?_
                    refine g_top (nI (edN pl p0 q0 i1 (j1 + 1))) (hg2 i1 (j1 + 1) (by omega) (by omega)) ?_
                    refine g_aload_n F 0 rfl dX11_edits_136 ?_
                    refine g_get F 11 0 9 inX11 rfl rfl (by decide) tw_fl_X11_29 rfl dX11_edits_137 ?_
                    refine g_bipush F (nI 9) (by decide) dX11_edits_140 ?_
                    refine g_iload_n F 3 rfl dX11_edits_142 ?_
                    refine n_mul F dX11_edits_143 ?_
                    refine g_top (nI ((i1 + 1) * 9)) (by rw [Nat.mul_comm]) ?_
                    refine g_iload F 4 rfl dX11_edits_144 ?_
                    refine n_add F dX11_edits_146 ?_
                    refine g_iconst F (nI 1) (by decide) dX11_edits_147 ?_
                    refine n_sub F (by omega) dX11_edits_148 ?_
                    refine g_top (nI ((i1 + 1) * 9 + j1)) (congrArg nI (by omega)) ?_
                    refine g_iald F 7 rfl (by omega) (by decide) dX11_edits_149 ?_
                    refine g_top (nI (edN pl p0 q0 (i1 + 1) j1)) (hg2 (i1 + 1) j1 (by omega) (by omega)) ?_
                    refine g_rSi F (wr := [ob (A 0) 11 [.int (nI n), .int (nI kd), .ref (A 1), .ref (A 2), .ref (A 3), .ref (A 4), .int (nI rk), .ref (A 5), .ref (A 6), .ref (A 7), .ref (A 8), .ref (A 9), .ref (A 10), .ref (A 11), .int ps, .ref (A 12), .ref (A 13)], ia E (A 1) 60 ln, ia E (A 2) 480 pl, ia E (A 3) 3600 td, za E (A 4) 60 zi, ia E (A 5) 60 rf, ia E (A 6) 60 rg, ia E (A 7) 81 g2, ia E (A 8) 3 bs, za E (A 9) 60 zt, ia E (A 10) 3600 al, ia E (A 11) 60 pp, ia E (A 12) 60 pw, ia E (A 13) 60 ph]) [.int (nI 1), .int (nI ((edN pl p0 q0 i1 j1) + 0)), .int (nI (((i1 + 1) * 9) + (j1 + 1))), .ref (A 7)] (c_X11_least E (edN pl p0 q0 i1 (j1 + 1)) (edN pl p0 q0 (i1 + 1) j1) (by have := hed i1 (j1 + 1); omega) (by have := hed (i1 + 1) j1; omega)) ⟨tw_ml_X11_66, tw_sm_X11_least, tw_in_X11, tw_co_X11_least⟩ 2 rfl (by decide) ⟨rfl, rfl, by decide, by decide, Nat.zero_le _, Nat.zero_le _⟩ [] [0, 1, 2, 3, 4, 5, 6, 7, 8, 9, 10, 11, 12, 13] [0, 1, 2, 3, 4, 5, 6, 7, 8, 9, 10, 11, 12, 13] rfl rfl (by decide) rfl rfl (Nat.le_of_ble_eq_true rfl) dX11_edits_150 ?_
                    refine n_add F dX11_edits_153 ?_
                    refine g_rSi F (wr := [ob (A 0) 11 [.int (nI n), .int (nI kd), .ref (A 1), .ref (A 2), .ref (A 3), .ref (A 4), .int (nI rk), .ref (A 5), .ref (A 6), .ref (A 7), .ref (A 8), .ref (A 9), .ref (A 10), .ref (A 11), .int ps, .ref (A 12), .ref (A 13)], ia E (A 1) 60 ln, ia E (A 2) 480 pl, ia E (A 3) 3600 td, za E (A 4) 60 zi, ia E (A 5) 60 rf, ia E (A 6) 60 rg, ia E (A 7) 81 g2, ia E (A 8) 3 bs, za E (A 9) 60 zt, ia E (A 10) 3600 al, ia E (A 11) 60 pp, ia E (A 12) 60 pw, ia E (A 13) 60 ph]) [.int (nI (((i1 + 1) * 9) + (j1 + 1))), .ref (A 7)] (c_X11_least E ((edN pl p0 q0 i1 j1) + 0) (1 + (Nat.min (edN pl p0 q0 i1 (j1 + 1)) (edN pl p0 q0 (i1 + 1) j1))) (by have := hed i1 j1; omega) (ed_b2 (by omega) (by omega))) ⟨tw_ml_X11_66, tw_sm_X11_least, tw_in_X11, tw_co_X11_least⟩ 2 rfl (by decide) ⟨rfl, rfl, by decide, by decide, Nat.zero_le _, Nat.zero_le _⟩ [] [0, 1, 2, 3, 4, 5, 6, 7, 8, 9, 10, 11, 12, 13] [0, 1, 2, 3, 4, 5, 6, 7, 8, 9, 10, 11, 12, 13] rfl rfl (by decide) rfl rfl (Nat.le_of_ble_eq_true rfl) dX11_edits_154 ?_
                    refine g_iast F 7 [ob (A 0) 11 [.int (nI n), .int (nI kd), .ref (A 1), .ref (A 2), .ref (A 3), .ref (A 4), .int (nI rk), .ref (A 5), .ref (A 6), .ref (A 7), .ref (A 8), .ref (A 9), .ref (A 10), .ref (A 11), .int ps, .ref (A 12), .ref (A 13)], ia E (A 1) 60 ln, ia E (A 2) 480 pl, ia E (A 3) 3600 td, za E (A 4) 60 zi, ia E (A 5) 60 rf, ia E (A 6) 60 rg, ia E (A 7) 81 (upd g2 (((i1 + 1) * 9) + (j1 + 1)) (nI (Nat.min ((edN pl p0 q0 i1 j1) + 0) (1 + (Nat.min (edN pl p0 q0 i1 (j1 + 1)) (edN pl p0 q0 (i1 + 1) j1)))))), ia E (A 8) 3 bs, za E (A 9) 60 zt, ia E (A 10) 3600 al, ia E (A 11) 60 pp, ia E (A 12) 60 pw, ia E (A 13) 60 ph] rfl (by omega) (by decide) rfl dX11_edits_157 ?_
                    refine g_iinc F (nI ((j1 + 1) + 1)) 4 4 [(0, .ref (A 0)), (1, .int (nI p0)), (2, .int (nI q0)), (3, .int (nI (i1 + 1))), (4, .int (nI ((j1 + 1) + 1))), (5, .int (nI ((edN pl p0 q0 i1 j1) + 0)))] [1, 2, 3, 4, 0, 5] dX11_edits_158 rfl (n_inc (j1 + 1)) (by decide) rfl ?_
                    refine g_goto F 15 dX11_edits_161 (by decide) ?_
                    refine g_lv [0, 1, 2, 3, 4] [(0, .ref (A 0)), (1, .int (nI p0)), (2, .int (nI q0)), (3, .int (nI (i1 + 1))), (4, .int (nI ((j1 + 1) + 1)))] rfl ?_
                    exact ih_15 (j1 + 1 + 1) (upd g2 (((i1 + 1) * 9) + (j1 + 1)) (nI (Nat.min ((edN pl p0 q0 i1 j1) + 0) (1 + (Nat.min (edN pl p0 q0 i1 (j1 + 1)) (edN pl p0 q0 (i1 + 1) j1)))))) (by omega) (fun x y h1 h2 => by
                        by_cases c : x = i1 + 1 ∧ y = j1 + 1
                        · rw [c.1, c.2, pk_us]
                          first
                          | rw [ed_c0 c_96]
                          | rw [ed_c1 c_96]
                        · exact (pk_un (by omega)).trans (hg2 x y (by omega) h2)) (by omega)
                · refine g_aload_n F 0 rfl dX11_edits_35 ?_
                  refine g_get F 11 0 9 inX11 rfl rfl (by decide) tw_fl_X11_29 rfl dX11_edits_36 ?_
                  refine g_bipush F (nI 9) (by decide) dX11_edits_39 ?_
                  refine g_iload_n F 3 rfl dX11_edits_41 ?_
                  refine n_mul F dX11_edits_42 ?_
                  refine g_top (nI (i * 9)) (by rw [Nat.mul_comm]) ?_
                  refine g_iload F 4 rfl dX11_edits_43 ?_
                  refine n_add F dX11_edits_45 ?_
                  refine g_iload_n F 3 rfl dX11_edits_46 ?_
                  refine g_iload F 4 rfl dX11_edits_47 ?_
                  refine n_add F dX11_edits_49 ?_
                  refine g_iast F 7 [ob (A 0) 11 [.int (nI n), .int (nI kd), .ref (A 1), .ref (A 2), .ref (A 3), .ref (A 4), .int (nI rk), .ref (A 5), .ref (A 6), .ref (A 7), .ref (A 8), .ref (A 9), .ref (A 10), .ref (A 11), .int ps, .ref (A 12), .ref (A 13)], ia E (A 1) 60 ln, ia E (A 2) 480 pl, ia E (A 3) 3600 td, za E (A 4) 60 zi, ia E (A 5) 60 rf, ia E (A 6) 60 rg, ia E (A 7) 81 (upd g2 ((i * 9) + j) (nI (i + j))), ia E (A 8) 3 bs, za E (A 9) 60 zt, ia E (A 10) 3600 al, ia E (A 11) 60 pp, ia E (A 12) 60 pw, ia E (A 13) 60 ph] rfl (by omega) (by decide) rfl dX11_edits_50 ?_
                  refine g_goto F 158 dX11_edits_51 (by decide) ?_
                  refine g_iinc F (nI (j + 1)) 4 4 [(0, .ref (A 0)), (1, .int (nI p0)), (2, .int (nI q0)), (3, .int (nI i)), (4, .int (nI (j + 1)))] [1, 2, 3, 4, 0] dX11_edits_158 rfl (n_inc j) (by decide) rfl ?_
                  refine g_goto F 15 dX11_edits_161 (by decide) ?_
                  exact ih_15 (j + 1) (upd g2 ((i * 9) + j) (nI (i + j))) (by omega) (fun x y h1 h2 => by
                      by_cases c : x = i ∧ y = j
                      · rw [c.1, c.2, pk_us]
                        rcases Nat.eq_zero_or_pos i with q | q
                        · subst q; rw [Nat.zero_add]; rfl
                        · first
                          | (rw [c_27]; rw [Nat.zero_add]; rfl)
                          | (rw [c_32, ed_0]; rfl)
                      · exact (pk_un (by omega)).trans (hg2 x y (by omega) h2)) (by omega)
        exact lp_15 _ 0 g (by omega) (fun x y h1 h2 => hg x y (by omega) h2) (Nat.lt_succ_self _)
  exact lp_2 _ 0 co (by omega) (fun x y h => absurd h (Nat.not_lt_zero x)) (Nat.lt_succ_self _)
