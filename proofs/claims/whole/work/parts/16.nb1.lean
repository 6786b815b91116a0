theorem unl_sym (pl : Nat → Int32) (a b : Nat) : ∀ i, unl pl a b i = unl pl b a i := by
  intro i
  induction i with
  | zero => rfl
  | succ i ih => show unl pl a b i + _ = unl pl b a i + _; rw [ih, df_sym pl a b i]
theorem smd_sym (pl : Nat → Int32) (a b : Nat) : ∀ i, smd pl a b i = smd pl b a i := by
  intro i
  induction i with
  | zero => rfl
  | succ i ih => show smd pl a b i + _ = smd pl b a i + _; rw [ih, df_sym pl a b i]
theorem grd_sym (pl : Nat → Int32) (a b : Nat) : ∀ i, grd pl a b i = grd pl b a i := by
  intro i
  induction i with
  | zero => rfl
  | succ i ih => show Nat.max _ _ = Nat.max _ _; rw [ih, df_sym pl a b i]
theorem ed_0 (pl : Nat → Int32) (a b : Nat) : ∀ i, edN pl a b i 0 = i := by
  intro i
  cases i with
  | zero => rfl
  | succ i => rfl
theorem ed_s (pl : Nat → Int32) (a b i j : Nat) : edN pl a b (i + 1) (j + 1) = Nat.min (edN pl a b i j + (if pl (b * 8 + j) = pl (a * 8 + i) then 0 else 1)) (1 + Nat.min (edN pl a b (i + 1) j) (edN pl a b i (j + 1))) := rfl
theorem ed_sym (pl : Nat → Int32) (a b : Nat) : ∀ i j, edN pl a b i j = edN pl b a j i := by
  intro i
  induction i with
  | zero => intro j; rw [ed_0]; rfl
  | succ i ih =>
    intro j
    induction j with
    | zero => rw [ed_0]; rfl
    | succ j jh =>
      rw [ed_s, ed_s, ih j, jh, ih (j + 1)]
      rw [show Nat.min (edN pl b a j (i + 1)) (edN pl b a (j + 1) i) = Nat.min (edN pl b a (j + 1) i) (edN pl b a j (i + 1)) from Nat.min_comm _ _]
      congr 2
      by_cases c : pl (b * 8 + j) = pl (a * 8 + i)
      · rw [if_pos c, if_pos c.symm]
      · rw [if_neg c, if_neg (fun z => c z.symm)]
theorem ed_same (pl : Nat → Int32) (a : Nat) : ∀ i, edN pl a a i i = 0 := by
  intro i
  induction i with
  | zero => rfl
  | succ i ih =>
    rw [ed_s, ih, if_pos rfl]
    exact Nat.eq_zero_of_le_zero (Nat.min_le_left _ _)
theorem df_same (pl : Nat → Int32) (a i : Nat) : dfN pl a a i = 0 := by unfold dfN; omega
theorem unl_same (pl : Nat → Int32) (a : Nat) : ∀ i, unl pl a a i = 0 := by
  intro i
  induction i with
  | zero => rfl
  | succ i ih => show unl pl a a i + _ = 0; rw [ih, df_same]; rfl
theorem smd_same (pl : Nat → Int32) (a : Nat) : ∀ i, smd pl a a i = 0 := by
  intro i
  induction i with
  | zero => rfl
  | succ i ih => show smd pl a a i + _ = 0; rw [ih, df_same]
theorem grd_same (pl : Nat → Int32) (a : Nat) : ∀ i, grd pl a a i = 0 := by
  intro i
  induction i with
  | zero => rfl
  | succ i ih => show Nat.max _ _ = 0; rw [ih, df_same]; rfl
theorem msn_same (pl : Nat → Int32) (L : Nat → Nat) (a : Nat) : ∀ i, i ≤ L a → msn pl L a a i = 0 := by
  intro i
  induction i with
  | zero => intro _; rfl
  | succ i ih =>
    intro h
    rw [msn_0 (Or.inr (hsb_of (show i < L a by omega) rfl)), ih (by omega)]
theorem ds_sym {kd : Nat} {L : Nat → Nat} {pl : Nat → Int32} {tN : Nat → Nat} (hs : SY tN) {a b : Nat} (ha : a < 60) (hb : b < 60) : dsN kd L pl tN a b = dsN kd L pl tN b a := by
  unfold dsN
  split
  · exact unl_sym pl a b 8
  · exact ed_sym pl a b _ _
  · exact smd_sym pl a b 8
  · exact grd_sym pl a b 8
  · exact Nat.add_comm _ _
  · exact hs.1 a b ha hb
theorem ds_same {kd : Nat} {L : Nat → Nat} {pl : Nat → Int32} {tN : Nat → Nat} (hs : SY tN) {a : Nat} (ha : a < 60) : dsN kd L pl tN a a = 0 := by
  unfold dsN
  split
  · exact unl_same pl a 8
  · exact ed_same pl a _
  · exact smd_same pl a 8
  · exact grd_same pl a 8
  · rw [msn_same pl L a _ (Nat.le_refl _)]
  · exact hs.2 a ha
theorem ds_le {kd : Nat} {ln pl td : Nat → Int32} {L : Nat → Nat} {tN : Nat → Nat} (hL : LR ln L) (hv : VR pl) (ht : TR td tN) {a b : Nat} (ha : a < 60) (hb : b < 60) : dsN kd L pl tN a b ≤ 100000 := by
  have l1 := (hL a ha).2
  have l2 := (hL b hb).2
  unfold dsN
  split
  · have := unl_le pl a b 8; omega
  · have := ed_le pl a b (L a) (L b); omega
  · have := smd_le hv ha hb 8 (Nat.le_refl _); omega
  · have := grd_le hv ha hb 8 (Nat.le_refl _); omega
  · have := msn_le pl L a b (L a)
    have := msn_le pl L b a (L b)
    omega
  · exact (ht _ (by omega)).2
/-- the distances' part of the book -/
def NBK (n kd : Nat) (L : Nat → Nat) (ln pl : Nat → Int32) (tN : Nat → Nat) (td br : Nat → Int32) (brk chk : Int32) (kn : Nat → Int32) : Prop := n ≤ 60 ∧ kd ≤ 5 ∧ LR ln L ∧ VR pl ∧ TR td tN ∧ SY tN ∧ TBk tN br brk chk ∧ KN (dsN kd L pl tN) n kn
/-- the members -/
def NBB (n : Nat) (mf : Nat → Int32) (k : Nat) (b : Nat → Nat) (I : Nat → Bool) : Prop := MB mf k b ∧ BK b k I ∧ ∀ t, I t = true → t < n
def NBR (rk : Nat) (rf rg : Nat → Int32) (rt ra : Nat → Nat) : Prop := rk ≤ 60 ∧ ∀ i, i < rk → rf i = nI (rt i) ∧ rg i = nI (ra i)
/-- all distances of the book are known -/
def ALLK (dd : Nat → Nat → Nat) (b : Nat → Nat) (k : Nat) (kn : Nat → Int32) : Prop := ∀ i j, i < k → j < k → kn (b i * 60 + b j) = nI (dd (b i) (b j)) ∧ dd (b i) (b j) ≤ 100000
theorem NBB.lt {n : Nat} {mf : Nat → Int32} {k i : Nat} {b : Nat → Nat} {I : Nat → Bool} (h : NBB n mf k b I) (hi : i < k) : b i < n := h.2.2 _ (h.2.1.at hi)
/-- the greatest distance of two -/
def GRT (dd : Nat → Nat → Nat) (I : Nat → Bool) (g : Nat) : Prop := (∀ x y, I x = true → I y = true → y < x → dd x y ≤ g) ∧ (g = 0 ∨ ∃ x y, I x = true ∧ I y = true ∧ y < x ∧ dd x y = g)
theorem grt_uni {dd : Nat → Nat → Nat} {I : Nat → Bool} {g h : Nat} (h1 : GRT dd I g) (h2 : GRT dd I h) : g = h := by
  have a : g ≤ h := by
    rcases h1.2 with z | ⟨x, y, hx, hy, hxy, e⟩
    · omega
    · rw [← e]; exact h2.1 x y hx hy hxy
  have b : h ≤ g := by
    rcases h2.2 with z | ⟨x, y, hx, hy, hxy, e⟩
    · omega
    · rw [← e]; exact h1.1 x y hx hy hxy
  omega
/-- the closest two -/
def CLO (dd : Nat → Nat → Nat) (I : Nat → Bool) (x y : Nat) : Prop := I x = true ∧ I y = true ∧ x < y ∧ ∀ u v, I u = true → I v = true → u < v → pkN dd x y ≤ pkN dd u v
theorem nk_div {d a b : Nat} (ha : a < 60) (hb : b < 60) : (d * 3600 + (a * 60 + b)) / 3600 = d ∧ (d * 3600 + (a * 60 + b)) / 60 % 60 = a ∧ (d * 3600 + (a * 60 + b)) % 60 = b := by omega

theorem i32_rng {x : Int32} {lo hi : Nat} (hlo : lo ≤ hi) (hhi : hi < 2 ^ 31) (h1 : ¬ x < nI lo) (h2 : ¬ nI hi < x) : ∃ j, lo ≤ j ∧ j ≤ hi ∧ x = nI j := by
  have e : nI lo ≤ x := Int32.not_lt.mp h1
  have h3 : x ≤ nI hi := Int32.not_lt.mp h2
  have hx0 : ¬ x < 0 := fun z => by
    have := Int32.lt_of_le_of_lt e z
    exact nI_pos (n := lo) (by omega) this
  obtain ⟨j, hj, rfl⟩ := nI_of hx0
  exact ⟨j, (nI_leI (by omega) hj).mp e, (nI_leI hj hhi).mp h3, rfl⟩
theorem i32_no {x : Int32} {lo hi : Nat} (hhi : hi < 2 ^ 31) (h : x < nI lo ∨ nI hi < x) : ∀ j, lo ≤ j → j ≤ hi → x ≠ nI j := by
  rintro j h1 h2 rfl
  rcases h with z | z
  · have := (nI_ltI (by omega) (by omega)).mp z; omega
  · have := (nI_ltI (by omega) (by omega)).mp z; omega

set_option maxHeartbeats 4000000 in
set_option maxRecDepth 100000 in
theorem c_X10_isHowMany (E : Ev) (x : Int32)  : CTi E yX10_isHowMany (wq yX10_isHowMany cX10_isHowMany 1 (some .boolean)) (rmk 0 0) [.int x] [] (fun (r : Int32) (u : Unit) => (r = 1 ∧ ∃ j, 1 ≤ j ∧ j ≤ 60 ∧ x = nI j) ∨ (r = 0 ∧ ∀ j, 1 ≤ j → j ≤ 60 → x ≠ nI j)) (fun (u : Unit) => []) := by
  refine CTi.ofZ (by decide) (Nat.le_of_ble_eq_true rfl) (fun X F R => ?_)
  refine g_lv [0] [(0, .int x)] rfl ?_
  refine g_iload_n F 0 rfl dX10_isHowMany_0 ?_
  refine g_iconst F (nI 1) (by decide) dX10_isHowMany_1 ?_
  refine g_icmp_lt F 15 dX10_isHowMany_2 (by decide) (fun c_2 => ?_) (fun c_2 => ?_)
  · refine g_iconst F (nI 0) (by decide) dX10_isHowMany_15 ?_
    exact R _ (()) _ _ dX10_isHowMany_16 (Or.inl rfl) (Or.inr ⟨rfl, i32_no (by decide) (Or.inl c_2)⟩)
  · refine g_iload_n F 0 rfl dX10_isHowMany_5 ?_
    refine g_bipush F (nI 60) (by decide) dX10_isHowMany_6 ?_
    refine g_icmp_gt F 15 dX10_isHowMany_8 (by decide) (fun c_8 => ?_) (fun c_8 => ?_)
    · refine g_iconst F (nI 0) (by decide) dX10_isHowMany_15 ?_
      exact R _ (()) _ _ dX10_isHowMany_16 (Or.inl rfl) (Or.inr ⟨rfl, i32_no (by decide) (Or.inr c_8)⟩)
    · refine g_iconst F (nI 1) (by decide) dX10_isHowMany_11 ?_
      refine g_goto F 16 dX10_isHowMany_12 (by decide) ?_
      exact R _ (()) _ _ dX10_isHowMany_16 (Or.inr rfl) (Or.inl ⟨rfl, i32_rng (by decide) (by decide) c_2 c_8⟩)

set_option maxHeartbeats 4000000 in
set_option maxRecDepth 100000 in
theorem c_X10_greatestInBook (E : Ev) (A : Nat → Nat) (kn : Nat → Int32) (kd : Nat) (mf : Nat → Int32) (k : Nat) (n : Nat) (b : Nat → Nat) (I : Nat → Bool) (dd : Nat → Nat → Nat) (hM : NBB n mf k b I) (hA : ALLK dd b k kn) : CTi E yX10_greatestInBook (wq yX10_greatestInBook cX10_greatestInBook 4 (some .int)) (rmk 1 22) [.ref (A 0)] [ob (A 0) 10 [.ref (A 1), .ref (A 5), .ref (A 8), .ref (A 10), .ref (A 12), .ref (A 15), .ref (A 17), .ref (A 21), .ref (A 23), .ref (A 25)], ob (A 8) 3 [.ref (A 1), .ref (A 5), .ref (A 9), .int (nI kd)], ia E (A 9) 3600 kn, ob (A 10) 5 [.ref (A 11), .int (nI k)], ia E (A 11) 60 mf] (fun (r : Int32) (u : Nat) => r = nI u ∧ GRT dd I u) (fun (u : Nat) => [ob (A 0) 10 [.ref (A 1), .ref (A 5), .ref (A 8), .ref (A 10), .ref (A 12), .ref (A 15), .ref (A 17), .ref (A 21), .ref (A 23), .ref (A 25)], ob (A 8) 3 [.ref (A 1), .ref (A 5), .ref (A 9), .int (nI kd)], ia E (A 9) 3600 kn, ob (A 10) 5 [.ref (A 11), .int (nI k)], ia E (A 11) 60 mf]) := by
  refine CTi.of (by decide) (Nat.le_of_ble_eq_true rfl) (fun X F R => ?_)
  refine g_lv [0] [(0, .ref (A 0))] rfl ?_
  have hk := hM.1.1
  refine g_iconst F (nI 0) (by decide) dX10_greatestInBook_0 ?_
  refine g_istore_n F 1 [(0, .ref (A 0)), (1, .int (nI 0))] [1, 0] dX10_greatestInBook_1 rfl (by decide) rfl ?_
  refine g_iconst F (nI 1) (by decide) dX10_greatestInBook_2 ?_
  refine g_istore_n F 2 [(0, .ref (A 0)), (1, .int (nI 0)), (2, .int (nI 1))] [1, 2, 0] dX10_greatestInBook_3 rfl (by decide) rfl ?_
  have lp_4 : ∀ (n_4 : Nat) (i : Nat) (g : Nat), (1 ≤ i) → (i ≤ k ∨ i = 1) → (g ≤ 100000) → (∀ x y, x < i → x < k → y < x → dd (b x) (b y) ≤ g) → ((g = 0 ∨ ∃ x y, I x = true ∧ I y = true ∧ y < x ∧ dd x y = g)) → k + 1 - i < n_4 → GW E X 0 0 [ob (A 0) 10 [.ref (A 1), .ref (A 5), .ref (A 8), .ref (A 10), .ref (A 12), .ref (A 15), .ref (A 17), .ref (A 21), .ref (A 23), .ref (A 25)], ob (A 8) 3 [.ref (A 1), .ref (A 5), .ref (A 9), .int (nI kd)], ia E (A 9) 3600 kn, ob (A 10) 5 [.ref (A 11), .int (nI k)], ia E (A 11) 60 mf] [(0, .ref (A 0)), (1, .int (nI g)), (2, .int (nI i))] 4 [] := by
    intro n_4
    induction n_4 with
    | zero => intro i g hi hi9 hg0 hp he hm_4; exact absurd hm_4 (Nat.not_lt_zero _)
    | succ n_4 ih_4 =>
      intro i g hi hi9 hg0 hp he hm_4
      refine g_iload_n F 2 rfl dX10_greatestInBook_4 ?_
      refine g_aload_n F 0 rfl dX10_greatestInBook_5 ?_
      refine g_get F 10 0 3 inX10 rfl rfl (by decide) tw_fl_X10_35 rfl dX10_greatestInBook_6 ?_
      refine g_rVi F (wr := [ob (A 0) 10 [.ref (A 1), .ref (A 5), .ref (A 8), .ref (A 10), .ref (A 12), .ref (A 15), .ref (A 17), .ref (A 21), .ref (A 23), .ref (A 25)], ob (A 8) 3 [.ref (A 1), .ref (A 5), .ref (A 9), .int (nI kd)], ia E (A 9) 3600 kn]) [.int (nI i)] (c_X5_size E (A 10) (A 11) mf k ) (gi_V tw_ml_X10_154 tw_im_X5_size tw_se_X5_size tw_in_X5 tw_co_X5_size) 0 rfl (by decide) ⟨rfl, rfl, by decide, by decide, Nat.zero_le _, Nat.zero_le _⟩ 5 0 rfl rfl [3, 4] [0, 1, 2] [0, 1, 2, 3, 4] rfl rfl (by decide) rfl rfl (Nat.le_of_ble_eq_true rfl) dX10_greatestInBook_9 ?_
      refine n_icmp_ge F 62 dX10_greatestInBook_12 (by decide) (by omega) (by omega) (fun c_12 => ?_) (fun c_12 => ?_)
      · refine g_iload_n F 1 rfl dX10_greatestInBook_62 ?_
        exact R _ g _ _ dX10_greatestInBook_63 (⟨rfl, fun x y hx hy hxy => by
                obtain ⟨i1, q1, rfl⟩ := (hM.2.1 x).mp hx
                obtain ⟨i2, q2, rfl⟩ := (hM.2.1 y).mp hy
                exact hp i1 i2 (by omega) q1 (mb_lt_inv hM.1 q2 hxy), he⟩)
      · refine g_iconst F (nI 0) (by decide) dX10_greatestInBook_15 ?_
        refine g_istore_n F 3 [(0, .ref (A 0)), (1, .int (nI g)), (2, .int (nI i)), (3, .int (nI 0))] [1, 2, 3, 0] dX10_greatestInBook_16 rfl (by decide) rfl ?_
        have lp_17 : ∀ (n_17 : Nat) (j : Nat) (g2 : Nat), (j ≤ i) → (g2 ≤ 100000) → (∀ x y, (x < i ∨ (x = i ∧ y < j)) → x < k → y < x → dd (b x) (b y) ≤ g2) → ((g2 = 0 ∨ ∃ x y, I x = true ∧ I y = true ∧ y < x ∧ dd x y = g2)) → i - j < n_17 → GW E X 0 0 [ob (A 0) 10 [.ref (A 1), .ref (A 5), .ref (A 8), .ref (A 10), .ref (A 12), .ref (A 15), .ref (A 17), .ref (A 21), .ref (A 23), .ref (A 25)], ob (A 8) 3 [.ref (A 1), .ref (A 5), .ref (A 9), .int (nI kd)], ia E (A 9) 3600 kn, ob (A 10) 5 [.ref (A 11), .int (nI k)], ia E (A 11) 60 mf] [(0, .ref (A 0)), (1, .int (nI g2)), (2, .int (nI i)), (3, .int (nI j))] 17 [] := by
          intro n_17
          induction n_17 with
          | zero => intro j g2 hj hg2 hp2 he2 hm_17; exact absurd hm_17 (Nat.not_lt_zero _)
          | succ n_17 ih_17 =>
            intro j g2 hj hg2 hp2 he2 hm_17
            refine g_iload_n F 3 rfl dX10_greatestInBook_17 ?_
            refine g_iload_n F 2 rfl dX10_greatestInBook_18 ?_
            refine n_icmp_ge F 56 dX10_greatestInBook_19 (by decide) (by omega) (by omega) (fun c_19 => ?_) (fun c_19 => ?_)
            · refine g_iinc F (nI (i + 1)) 2 2 [(0, .ref (A 0)), (1, .int (nI g2)), (2, .int (nI (i + 1))), (3, .int (nI j))] [1, 2, 0, 3] dX10_greatestInBook_56 rfl (n_inc i) (by decide) rfl ?_
              refine g_goto F 4 dX10_greatestInBook_59 (by decide) ?_
              refine g_lv [0, 1, 2] [(0, .ref (A 0)), (1, .int (nI g2)), (2, .int (nI (i + 1)))] rfl ?_
              exact ih_4 (i + 1) g2 (by omega) (by omega) (hg2) (fun x y h1 h2 h3 => (Nat.lt_or_ge x i).elim (fun z => hp2 x y (Or.inl z) h2 h3) (fun z => hp2 x y (Or.inr ⟨by omega, by omega⟩) h2 h3)) (he2) (by omega)
            · refine g_iload_n F 1 rfl dX10_greatestInBook_22 ?_
              refine g_aload_n F 0 rfl dX10_greatestInBook_23 ?_
              refine g_get F 10 0 2 inX10 rfl rfl (by decide) tw_fl_X10_28 rfl dX10_greatestInBook_24 ?_
              refine g_aload_n F 0 rfl dX10_greatestInBook_27 ?_
              refine g_get F 10 0 3 inX10 rfl rfl (by decide) tw_fl_X10_35 rfl dX10_greatestInBook_28 ?_
              refine g_iload_n F 2 rfl dX10_greatestInBook_31 ?_
              refine g_rVi F (wr := [ob (A 0) 10 [.ref (A 1), .ref (A 5), .ref (A 8), .ref (A 10), .ref (A 12), .ref (A 15), .ref (A 17), .ref (A 21), .ref (A 23), .ref (A 25)], ob (A 8) 3 [.ref (A 1), .ref (A 5), .ref (A 9), .int (nI kd)], ia E (A 9) 3600 kn]) [.ref (A 8), .int (nI g2)] (c_X5_at E (A 10) (A 11) mf k b i (fun i hi => (hM.1.2.1 i hi).1) (by omega) (by omega)) (gi_V tw_ml_X10_200 tw_im_X5_at tw_se_X5_at tw_in_X5 tw_co_X5_at) 1 rfl (by decide) ⟨rfl, rfl, by decide, by decide, Nat.zero_le _, Nat.zero_le _⟩ 5 0 rfl rfl [3, 4] [0, 1, 2] [0, 1, 2, 3, 4] rfl rfl (by decide) rfl rfl (Nat.le_of_ble_eq_true rfl) dX10_greatestInBook_32 ?_
              refine g_aload_n F 0 rfl dX10_greatestInBook_35 ?_
              refine g_get F 10 0 3 inX10 rfl rfl (by decide) tw_fl_X10_35 rfl dX10_greatestInBook_36 ?_
              refine g_iload_n F 3 rfl dX10_greatestInBook_39 ?_
              refine g_rVi F (wr := [ob (A 0) 10 [.ref (A 1), .ref (A 5), .ref (A 8), .ref (A 10), .ref (A 12), .ref (A 15), .ref (A 17), .ref (A 21), .ref (A 23), .ref (A 25)], ob (A 8) 3 [.ref (A 1), .ref (A 5), .ref (A 9), .int (nI kd)], ia E (A 9) 3600 kn]) [.int (nI (b i)), .ref (A 8), .int (nI g2)] (c_X5_at E (A 10) (A 11) mf k b j (fun i hi => (hM.1.2.1 i hi).1) (by omega) (by omega)) (gi_V tw_ml_X10_200 tw_im_X5_at tw_se_X5_at tw_in_X5 tw_co_X5_at) 1 rfl (by decide) ⟨rfl, rfl, by decide, by decide, Nat.zero_le _, Nat.zero_le _⟩ 5 0 rfl rfl [3, 4] [0, 1, 2] [0, 1, 2, 3, 4] rfl rfl (by decide) rfl rfl (Nat.le_of_ble_eq_true rfl) dX10_greatestInBook_40 ?_
              refine g_rVi F (wr := [ob (A 0) 10 [.ref (A 1), .ref (A 5), .ref (A 8), .ref (A 10), .ref (A 12), .ref (A 15), .ref (A 17), .ref (A 21), .ref (A 23), .ref (A 25)], ob (A 10) 5 [.ref (A 11), .int (nI k)], ia E (A 11) 60 mf]) [.int (nI g2)] (c_X3_at E (A 8) (A 1) (A 5) (A 9) kn kd dd (b i) (b j) ((hM.1.2.1 i (by omega)).2) ((hM.1.2.1 j (by omega)).2) ((hA i j (by omega) (by omega)).1)) (gi_V tw_ml_X10_219 tw_im_X3_at tw_se_X3_at tw_in_X3 tw_co_X3_at) 2 rfl (by decide) ⟨rfl, rfl, by decide, by decide, Nat.zero_le _, Nat.zero_le _⟩ 3 0 rfl rfl [1, 2] [0, 3, 4] [0, 3, 4, 1, 2] rfl rfl (by decide) rfl rfl (Nat.le_of_ble_eq_true rfl) dX10_greatestInBook_43 ?_
              refine g_mmax F tw_ml_X10_221 (by decide) (Nat.le_of_ble_eq_true rfl) (Nat.zero_le _) (Nat.zero_le _) dX10_greatestInBook_46 ?_
              refine g_top _ (n_max g2 (dd (b i) (b j)) (by omega) (by have := (hA i j (by omega) (by omega)).2; omega)) ?_
              have hmx := nmin_cases g2 (dd (b i) (b j))
              refine g_istore_n F 1 [(0, .ref (A 0)), (1, .int (nI (Nat.max g2 (dd (b i) (b j))))), (2, .int (nI i)), (3, .int (nI j))] [1, 0, 2, 3] dX10_greatestInBook_49 rfl (by decide) rfl ?_
              refine g_iinc F (nI (j + 1)) 3 3 [(0, .ref (A 0)), (1, .int (nI (Nat.max g2 (dd (b i) (b j))))), (2, .int (nI i)), (3, .int (nI (j + 1)))] [1, 2, 3, 0] dX10_greatestInBook_50 rfl (n_inc j) (by decide) rfl ?_
              refine g_goto F 17 dX10_greatestInBook_53 (by decide) ?_
              exact ih_17 (j + 1) (Nat.max g2 (dd (b i) (b j))) (by omega) (by have := (hA i j (by omega) (by omega)).2; omega) (fun x y h1 h2 h3 => by
                            by_cases z : x = i ∧ y = j
                            · rw [z.1, z.2]; exact Nat.le_max_right _ _
                            · exact Nat.le_trans (hp2 x y (by omega) h2 h3) (Nat.le_max_left _ _)) (by
                            rcases hmx with ⟨-, e9, q⟩ | ⟨-, e9, q⟩
                            · rw [e9]; exact Or.inr ⟨b i, b j, hM.2.1.at (by omega), hM.2.1.at (by omega), hM.1.2.2 j i c_19 (by omega), rfl⟩
                            · rw [e9]; exact he2) (by omega)
        exact lp_17 _ 0 g (by omega) (hg0) (fun x y h1 h2 h3 => hp x y (by omega) h2 h3) (he) (Nat.lt_succ_self _)
  exact lp_4 _ 1 0 (by omega) (by omega) (by omega) (fun x y h1 h2 h3 => absurd h3 (by omega)) (Or.inl rfl) (Nat.lt_succ_self _)

set_option maxHeartbeats 4000000 in
set_option maxRecDepth 100000 in
theorem c_X10_closestKey (E : Ev) (A : Nat → Nat) (kn : Nat → Int32) (kd : Nat) (mf : Nat → Int32) (k : Nat) (n : Nat) (b : Nat → Nat) (I : Nat → Bool) (dd : Nat → Nat → Nat) (hM : NBB n mf k b I) (hA : ALLK dd b k kn) (hk2 : 2 ≤ k) : CTi E yX10_closestKey (wq yX10_closestKey cX10_closestKey 4 (some .int)) (rmk 2 45) [.ref (A 0)] [ob (A 0) 10 [.ref (A 1), .ref (A 5), .ref (A 8), .ref (A 10), .ref (A 12), .ref (A 15), .ref (A 17), .ref (A 21), .ref (A 23), .ref (A 25)], ob (A 8) 3 [.ref (A 1), .ref (A 5), .ref (A 9), .int (nI kd)], ia E (A 9) 3600 kn, ob (A 10) 5 [.ref (A 11), .int (nI k)], ia E (A 11) 60 mf] (fun (r : Int32) (u : Nat × Nat) => r = nI (pkN dd u.1 u.2) ∧ CLO dd I u.1 u.2) (fun (u : Nat × Nat) => [ob (A 0) 10 [.ref (A 1), .ref (A 5), .ref (A 8), .ref (A 10), .ref (A 12), .ref (A 15), .ref (A 17), .ref (A 21), .ref (A 23), .ref (A 25)], ob (A 8) 3 [.ref (A 1), .ref (A 5), .ref (A 9), .int (nI kd)], ia E (A 9) 3600 kn, ob (A 10) 5 [.ref (A 11), .int (nI k)], ia E (A 11) 60 mf]) := by
  refine CTi.of (by decide) (Nat.le_of_ble_eq_true rfl) (fun X F R => ?_)
  refine g_lv [0] [(0, .ref (A 0))] rfl ?_
  have hk := hM.1.1
  refine g_ldc F tw_cn_X10_226 dX10_closestKey_0 ?_
  refine g_top (nI 2147483647) (by decide) ?_
  refine g_istore_n F 1 [(0, .ref (A 0)), (1, .int (nI 2147483647))] [1, 0] dX10_closestKey_2 rfl (by decide) rfl ?_
  refine g_iconst F (nI 0) (by decide) dX10_closestKey_3 ?_
  refine g_istore_n F 2 [(0, .ref (A 0)), (1, .int (nI 2147483647)), (2, .int (nI 0))] [1, 2, 0] dX10_closestKey_4 rfl (by decide) rfl ?_
  have lp_5 : ∀ (n_5 : Nat) (i : Nat) (g : Nat), (i ≤ k) → (g ≤ 2147483647) → (∀ x y, x < i → x < y → y < k → g ≤ pkN dd (b x) (b y)) → ((g = 2147483647 ∨ ∃ x y, x < y ∧ y < k ∧ g = pkN dd (b x) (b y))) → k - i < n_5 → GW E X 0 0 [ob (A 0) 10 [.ref (A 1), .ref (A 5), .ref (A 8), .ref (A 10), .ref (A 12), .ref (A 15), .ref (A 17), .ref (A 21), .ref (A 23), .ref (A 25)], ob (A 8) 3 [.ref (A 1), .ref (A 5), .ref (A 9), .int (nI kd)], ia E (A 9) 3600 kn, ob (A 10) 5 [.ref (A 11), .int (nI k)], ia E (A 11) 60 mf] [(0, .ref (A 0)), (1, .int (nI g)), (2, .int (nI i))] 5 [] := by
    intro n_5
    induction n_5 with
    | zero => intro i g hi hg0 hp he hm_5; exact absurd hm_5 (Nat.not_lt_zero _)
    | succ n_5 ih_5 =>
      intro i g hi hg0 hp he hm_5
      refine g_iload_n F 2 rfl dX10_closestKey_5 ?_
      refine g_aload_n F 0 rfl dX10_closestKey_6 ?_
      refine g_get F 10 0 3 inX10 rfl rfl (by decide) tw_fl_X10_35 rfl dX10_closestKey_7 ?_
      refine g_rVi F (wr := [ob (A 0) 10 [.ref (A 1), .ref (A 5), .ref (A 8), .ref (A 10), .ref (A 12), .ref (A 15), .ref (A 17), .ref (A 21), .ref (A 23), .ref (A 25)], ob (A 8) 3 [.ref (A 1), .ref (A 5), .ref (A 9), .int (nI kd)], ia E (A 9) 3600 kn]) [.int (nI i)] (c_X5_size E (A 10) (A 11) mf k ) (gi_V tw_ml_X10_154 tw_im_X5_size tw_se_X5_size tw_in_X5 tw_co_X5_size) 0 rfl (by decide) ⟨rfl, rfl, by decide, by decide, Nat.zero_le _, Nat.zero_le _⟩ 5 0 rfl rfl [3, 4] [0, 1, 2] [0, 1, 2, 3, 4] rfl rfl (by decide) rfl rfl (Nat.le_of_ble_eq_true rfl) dX10_closestKey_10 ?_
      refine n_icmp_ge F 71 dX10_closestKey_13 (by decide) (by omega) (by omega) (fun c_13 => ?_) (fun c_13 => ?_)
      · have hpr : ∃ x y, x < y ∧ y < k ∧ g = pkN dd (b x) (b y) := by
                  rcases he with z | z
                  · have q1 := hp 0 1 (by omega) (by omega) (by omega)
                    have q2 := pk_le2 (hA 0 1 (by omega) (by omega)).2 (hM.1.2.1 0 (by omega)).2 (hM.1.2.1 1 (by omega)).2
                    omega
                  · exact z
        obtain ⟨x9, y9, hxy9, hy9, e9⟩ := hpr
        subst e9
        refine g_iload_n F 1 rfl dX10_closestKey_71 ?_
        exact R _ ((b x9, b y9)) _ _ dX10_closestKey_72 (by (try dsimp only); exact (⟨rfl, hM.2.1.at (by omega), hM.2.1.at hy9, hM.1.2.2 x9 y9 hxy9 hy9, fun u9 v9 hu9 hv9 huv => by
                obtain ⟨i1, q1, rfl⟩ := (hM.2.1 u9).mp hu9
                obtain ⟨i2, q2, rfl⟩ := (hM.2.1 v9).mp hv9
                exact hp i1 i2 (by omega) (mb_lt_inv hM.1 q1 huv) q2⟩))
      · refine g_iload_n F 2 rfl dX10_closestKey_16 ?_
        refine g_iconst F (nI 1) (by decide) dX10_closestKey_17 ?_
        refine n_add F dX10_closestKey_18 ?_
        refine g_istore_n F 3 [(0, .ref (A 0)), (1, .int (nI g)), (2, .int (nI i)), (3, .int (nI (i + 1)))] [1, 2, 3, 0] dX10_closestKey_19 rfl (by decide) rfl ?_
        have lp_20 : ∀ (n_20 : Nat) (j : Nat) (g2 : Nat), (i < j) → (j ≤ k) → (g2 ≤ 2147483647) → (∀ x y, (x < i ∨ (x = i ∧ y < j)) → x < y → y < k → g2 ≤ pkN dd (b x) (b y)) → ((g2 = 2147483647 ∨ ∃ x y, x < y ∧ y < k ∧ g2 = pkN dd (b x) (b y))) → k - j < n_20 → GW E X 0 0 [ob (A 0) 10 [.ref (A 1), .ref (A 5), .ref (A 8), .ref (A 10), .ref (A 12), .ref (A 15), .ref (A 17), .ref (A 21), .ref (A 23), .ref (A 25)], ob (A 8) 3 [.ref (A 1), .ref (A 5), .ref (A 9), .int (nI kd)], ia E (A 9) 3600 kn, ob (A 10) 5 [.ref (A 11), .int (nI k)], ia E (A 11) 60 mf] [(0, .ref (A 0)), (1, .int (nI g2)), (2, .int (nI i)), (3, .int (nI j))] 20 [] := by
          intro n_20
          induction n_20 with
          | zero => intro j g2 hj1 hj hg2 hp2 he2 hm_20; exact absurd hm_20 (Nat.not_lt_zero _)
          | succ n_20 ih_20 =>
            intro j g2 hj1 hj hg2 hp2 he2 hm_20
            refine g_iload_n F 3 rfl dX10_closestKey_20 ?_
            refine g_aload_n F 0 rfl dX10_closestKey_21 ?_
            refine g_get F 10 0 3 inX10 rfl rfl (by decide) tw_fl_X10_35 rfl dX10_closestKey_22 ?_
            refine g_rVi F (wr := [ob (A 0) 10 [.ref (A 1), .ref (A 5), .ref (A 8), .ref (A 10), .ref (A 12), .ref (A 15), .ref (A 17), .ref (A 21), .ref (A 23), .ref (A 25)], ob (A 8) 3 [.ref (A 1), .ref (A 5), .ref (A 9), .int (nI kd)], ia E (A 9) 3600 kn]) [.int (nI j)] (c_X5_size E (A 10) (A 11) mf k ) (gi_V tw_ml_X10_154 tw_im_X5_size tw_se_X5_size tw_in_X5 tw_co_X5_size) 0 rfl (by decide) ⟨rfl, rfl, by decide, by decide, Nat.zero_le _, Nat.zero_le _⟩ 5 0 rfl rfl [3, 4] [0, 1, 2] [0, 1, 2, 3, 4] rfl rfl (by decide) rfl rfl (Nat.le_of_ble_eq_true rfl) dX10_closestKey_25 ?_
            refine n_icmp_ge F 65 dX10_closestKey_28 (by decide) (by omega) (by omega) (fun c_28 => ?_) (fun c_28 => ?_)
            · refine g_iinc F (nI (i + 1)) 2 2 [(0, .ref (A 0)), (1, .int (nI g2)), (2, .int (nI (i + 1))), (3, .int (nI j))] [1, 2, 0, 3] dX10_closestKey_65 rfl (n_inc i) (by decide) rfl ?_
              refine g_goto F 5 dX10_closestKey_68 (by decide) ?_
              refine g_lv [0, 1, 2] [(0, .ref (A 0)), (1, .int (nI g2)), (2, .int (nI (i + 1)))] rfl ?_
              exact ih_5 (i + 1) g2 (by omega) (hg2) (fun x y h1 h2 h3 => (Nat.lt_or_ge x i).elim (fun z => hp2 x y (Or.inl z) h2 h3) (fun z => hp2 x y (Or.inr ⟨by omega, by omega⟩) h2 h3)) (he2) (by omega)
            · refine g_iload_n F 1 rfl dX10_closestKey_31 ?_
              refine g_aload_n F 0 rfl dX10_closestKey_32 ?_
              refine g_get F 10 0 2 inX10 rfl rfl (by decide) tw_fl_X10_28 rfl dX10_closestKey_33 ?_
              refine g_aload_n F 0 rfl dX10_closestKey_36 ?_
              refine g_get F 10 0 3 inX10 rfl rfl (by decide) tw_fl_X10_35 rfl dX10_closestKey_37 ?_
              refine g_iload_n F 2 rfl dX10_closestKey_40 ?_
              refine g_rVi F (wr := [ob (A 0) 10 [.ref (A 1), .ref (A 5), .ref (A 8), .ref (A 10), .ref (A 12), .ref (A 15), .ref (A 17), .ref (A 21), .ref (A 23), .ref (A 25)], ob (A 8) 3 [.ref (A 1), .ref (A 5), .ref (A 9), .int (nI kd)], ia E (A 9) 3600 kn]) [.ref (A 8), .int (nI g2)] (c_X5_at E (A 10) (A 11) mf k b i (fun i hi => (hM.1.2.1 i hi).1) (by omega) (by omega)) (gi_V tw_ml_X10_200 tw_im_X5_at tw_se_X5_at tw_in_X5 tw_co_X5_at) 1 rfl (by decide) ⟨rfl, rfl, by decide, by decide, Nat.zero_le _, Nat.zero_le _⟩ 5 0 rfl rfl [3, 4] [0, 1, 2] [0, 1, 2, 3, 4] rfl rfl (by decide) rfl rfl (Nat.le_of_ble_eq_true rfl) dX10_closestKey_41 ?_
              refine g_aload_n F 0 rfl dX10_closestKey_44 ?_
              refine g_get F 10 0 3 inX10 rfl rfl (by decide) tw_fl_X10_35 rfl dX10_closestKey_45 ?_
              refine g_iload_n F 3 rfl dX10_closestKey_48 ?_
              refine g_rVi F (wr := [ob (A 0) 10 [.ref (A 1), .ref (A 5), .ref (A 8), .ref (A 10), .ref (A 12), .ref (A 15), .ref (A 17), .ref (A 21), .ref (A 23), .ref (A 25)], ob (A 8) 3 [.ref (A 1), .ref (A 5), .ref (A 9), .int (nI kd)], ia E (A 9) 3600 kn]) [.int (nI (b i)), .ref (A 8), .int (nI g2)] (c_X5_at E (A 10) (A 11) mf k b j (fun i hi => (hM.1.2.1 i hi).1) (by omega) (by omega)) (gi_V tw_ml_X10_200 tw_im_X5_at tw_se_X5_at tw_in_X5 tw_co_X5_at) 1 rfl (by decide) ⟨rfl, rfl, by decide, by decide, Nat.zero_le _, Nat.zero_le _⟩ 5 0 rfl rfl [3, 4] [0, 1, 2] [0, 1, 2, 3, 4] rfl rfl (by decide) rfl rfl (Nat.le_of_ble_eq_true rfl) dX10_closestKey_49 ?_
              refine g_rVi F (wr := [ob (A 0) 10 [.ref (A 1), .ref (A 5), .ref (A 8), .ref (A 10), .ref (A 12), .ref (A 15), .ref (A 17), .ref (A 21), .ref (A 23), .ref (A 25)], ob (A 10) 5 [.ref (A 11), .int (nI k)], ia E (A 11) 60 mf]) [.int (nI g2)] (c_X3_pairKey E (A 8) (A 1) (A 5) (A 9) kn kd dd (b i) (b j) ((hM.1.2.1 i (by omega)).2) ((hM.1.2.1 j (by omega)).2) ((hA i j (by omega) (by omega)).1)) (gi_V tw_ml_X10_227 tw_im_X3_pairKey tw_se_X3_pairKey tw_in_X3 tw_co_X3_pairKey) 2 rfl (by decide) ⟨rfl, rfl, by decide, by decide, Nat.zero_le _, Nat.zero_le _⟩ 3 0 rfl rfl [1, 2] [0, 3, 4] [0, 3, 4, 1, 2] rfl rfl (by decide) rfl rfl (Nat.le_of_ble_eq_true rfl) dX10_closestKey_52 ?_
              refine g_mmin F tw_ml_X10_164 (by decide) (Nat.le_of_ble_eq_true rfl) (Nat.zero_le _) (Nat.zero_le _) dX10_closestKey_55 ?_
              refine g_top _ (n_min g2 (pkN dd (b i) (b j)) (by omega) (by have := pk_le2 (hA i j (by omega) (by omega)).2 (hM.1.2.1 i (by omega)).2 (hM.1.2.1 j (by omega)).2; omega)) ?_
              have hmx := nmin_cases g2 (pkN dd (b i) (b j))
              refine g_istore_n F 1 [(0, .ref (A 0)), (1, .int (nI (Nat.min g2 (pkN dd (b i) (b j))))), (2, .int (nI i)), (3, .int (nI j))] [1, 0, 2, 3] dX10_closestKey_58 rfl (by decide) rfl ?_
              refine g_iinc F (nI (j + 1)) 3 3 [(0, .ref (A 0)), (1, .int (nI (Nat.min g2 (pkN dd (b i) (b j))))), (2, .int (nI i)), (3, .int (nI (j + 1)))] [1, 2, 3, 0] dX10_closestKey_59 rfl (n_inc j) (by decide) rfl ?_
              refine g_goto F 20 dX10_closestKey_62 (by decide) ?_
              exact ih_20 (j + 1) (Nat.min g2 (pkN dd (b i) (b j))) (by omega) (by omega) (by omega) (fun x y h1 h2 h3 => by
                            by_cases z : x = i ∧ y = j
                            · rw [z.1, z.2]; exact Nat.min_le_right _ _
                            · exact Nat.le_trans (Nat.min_le_left _ _) (hp2 x y (by omega) h2 h3)) (by
                            rcases hmx with ⟨e9, -, q⟩ | ⟨e9, -, q⟩
                            · rw [e9]; exact he2
                            · rw [e9]; exact Or.inr ⟨i, j, hj1, c_28, rfl⟩) (by omega)
        exact lp_20 _ (i + 1) g (by omega) (by omega) (hg0) (fun x y h1 h2 h3 => hp x y (by omega) h2 h3) (he) (Nat.lt_succ_self _)
  exact lp_5 _ 0 2147483647 (by omega) (by omega) (fun x y h1 => absurd h1 (Nat.not_lt_zero x)) (Or.inl rfl) (Nat.lt_succ_self _)

set_option maxHeartbeats 4000000 in
set_option maxRecDepth 100000 in
theorem c_X10_sumFrom (E : Ev) (A : Nat → Nat) (kn : Nat → Int32) (kd : Nat) (mf : Nat → Int32) (k : Nat) (n : Nat) (b : Nat → Nat) (I : Nat → Bool) (dd : Nat → Nat → Nat) (i0 : Nat) (hM : NBB n mf k b I) (hA : ALLK dd b k kn) (hi0 : i0 < k) : RDi E yX10_sumFrom (wq yX10_sumFrom cX10_sumFrom 4 (some .int)) (rmk 1 22) [.ref (A 0), .int (nI (b i0))] [ob (A 0) 10 [.ref (A 1), .ref (A 5), .ref (A 8), .ref (A 10), .ref (A 12), .ref (A 15), .ref (A 17), .ref (A 21), .ref (A 23), .ref (A 25)], ob (A 8) 3 [.ref (A 1), .ref (A 5), .ref (A 9), .int (nI kd)], ia E (A 9) 3600 kn, ob (A 10) 5 [.ref (A 11), .int (nI k)], ia E (A 11) 60 mf] (nI (sumB (fun x => dd (b i0) x) b k)) := by
  refine CTi.of (by decide) (Nat.le_of_ble_eq_true rfl) (fun X F R => ?_)
  refine g_lv [0, 1] [(0, .ref (A 0)), (1, .int (nI (b i0)))] rfl ?_
  have hk := hM.1.1
  refine g_iconst F (nI 0) (by decide) dX10_sumFrom_0 ?_
  refine g_istore_n F 2 [(0, .ref (A 0)), (1, .int (nI (b i0))), (2, .int (nI 0))] [1, 2, 0] dX10_sumFrom_1 rfl (by decide) rfl ?_
  refine g_iconst F (nI 0) (by decide) dX10_sumFrom_2 ?_
  refine g_istore_n F 3 [(0, .ref (A 0)), (1, .int (nI (b i0))), (2, .int (nI 0)), (3, .int (nI 0))] [1, 2, 3, 0] dX10_sumFrom_3 rfl (by decide) rfl ?_
  have lp_4 : ∀ (n_4 : Nat) (i : Nat), (i ≤ k) → k - i < n_4 → GW E X 0 0 [ob (A 0) 10 [.ref (A 1), .ref (A 5), .ref (A 8), .ref (A 10), .ref (A 12), .ref (A 15), .ref (A 17), .ref (A 21), .ref (A 23), .ref (A 25)], ob (A 8) 3 [.ref (A 1), .ref (A 5), .ref (A 9), .int (nI kd)], ia E (A 9) 3600 kn, ob (A 10) 5 [.ref (A 11), .int (nI k)], ia E (A 11) 60 mf] [(0, .ref (A 0)), (1, .int (nI (b i0))), (2, .int (nI (sumB (fun x => dd (b i0) x) b i))), (3, .int (nI i))] 4 [] := by
    intro n_4
    induction n_4 with
    | zero => intro i hi hm_4; exact absurd hm_4 (Nat.not_lt_zero _)
    | succ n_4 ih_4 =>
      intro i hi hm_4
      refine g_iload_n F 3 rfl dX10_sumFrom_4 ?_
      refine g_aload_n F 0 rfl dX10_sumFrom_5 ?_
      refine g_get F 10 0 3 inX10 rfl rfl (by decide) tw_fl_X10_35 rfl dX10_sumFrom_6 ?_
      refine g_rVi F (wr := [ob (A 0) 10 [.ref (A 1), .ref (A 5), .ref (A 8), .ref (A 10), .ref (A 12), .ref (A 15), .ref (A 17), .ref (A 21), .ref (A 23), .ref (A 25)], ob (A 8) 3 [.ref (A 1), .ref (A 5), .ref (A 9), .int (nI kd)], ia E (A 9) 3600 kn]) [.int (nI i)] (c_X5_size E (A 10) (A 11) mf k ) (gi_V tw_ml_X10_154 tw_im_X5_size tw_se_X5_size tw_in_X5 tw_co_X5_size) 0 rfl (by decide) ⟨rfl, rfl, by decide, by decide, Nat.zero_le _, Nat.zero_le _⟩ 5 0 rfl rfl [3, 4] [0, 1, 2] [0, 1, 2, 3, 4] rfl rfl (by decide) rfl rfl (Nat.le_of_ble_eq_true rfl) dX10_sumFrom_9 ?_
      refine n_icmp_ge F 40 dX10_sumFrom_12 (by decide) (by omega) (by omega) (fun c_12 => ?_) (fun c_12 => ?_)
      · refine g_iload_n F 2 rfl dX10_sumFrom_40 ?_
        exact R _ (()) _ _ dX10_sumFrom_41 (by rw [show i = k by omega])
      · refine g_iload_n F 2 rfl dX10_sumFrom_15 ?_
        refine g_aload_n F 0 rfl dX10_sumFrom_16 ?_
        refine g_get F 10 0 2 inX10 rfl rfl (by decide) tw_fl_X10_28 rfl dX10_sumFrom_17 ?_
        refine g_iload_n F 1 rfl dX10_sumFrom_20 ?_
        refine g_aload_n F 0 rfl dX10_sumFrom_21 ?_
        refine g_get F 10 0 3 inX10 rfl rfl (by decide) tw_fl_X10_35 rfl dX10_sumFrom_22 ?_
        refine g_iload_n F 3 rfl dX10_sumFrom_25 ?_
        refine g_rVi F (wr := [ob (A 0) 10 [.ref (A 1), .ref (A 5), .ref (A 8), .ref (A 10), .ref (A 12), .ref (A 15), .ref (A 17), .ref (A 21), .ref (A 23), .ref (A 25)], ob (A 8) 3 [.ref (A 1), .ref (A 5), .ref (A 9), .int (nI kd)], ia E (A 9) 3600 kn]) [.int (nI (b i0)), .ref (A 8), .int (nI (sumB (fun x => dd (b i0) x) b i))] (c_X5_at E (A 10) (A 11) mf k b i (fun i hi => (hM.1.2.1 i hi).1) (by omega) (by omega)) (gi_V tw_ml_X10_200 tw_im_X5_at tw_se_X5_at tw_in_X5 tw_co_X5_at) 1 rfl (by decide) ⟨rfl, rfl, by decide, by decide, Nat.zero_le _, Nat.zero_le _⟩ 5 0 rfl rfl [3, 4] [0, 1, 2] [0, 1, 2, 3, 4] rfl rfl (by decide) rfl rfl (Nat.le_of_ble_eq_true rfl) dX10_sumFrom_26 ?_
        refine g_rVi F (wr := [ob (A 0) 10 [.ref (A 1), .ref (A 5), .ref (A 8), .ref (A 10), .ref (A 12), .ref (A 15), .ref (A 17), .ref (A 21), .ref (A 23), .ref (A 25)], ob (A 10) 5 [.ref (A 11), .int (nI k)], ia E (A 11) 60 mf]) [.int (nI (sumB (fun x => dd (b i0) x) b i))] (c_X3_at E (A 8) (A 1) (A 5) (A 9) kn kd dd (b i0) (b i) ((hM.1.2.1 i0 (by omega)).2) ((hM.1.2.1 i (by omega)).2) ((hA i0 i (by omega) (by omega)).1)) (gi_V tw_ml_X10_219 tw_im_X3_at tw_se_X3_at tw_in_X3 tw_co_X3_at) 2 rfl (by decide) ⟨rfl, rfl, by decide, by decide, Nat.zero_le _, Nat.zero_le _⟩ 3 0 rfl rfl [1, 2] [0, 3, 4] [0, 3, 4, 1, 2] rfl rfl (by decide) rfl rfl (Nat.le_of_ble_eq_true rfl) dX10_sumFrom_29 ?_
        refine n_add F dX10_sumFrom_32 ?_
        refine g_top (nI (sumB (fun x => dd (b i0) x) b (i + 1))) (rfl) ?_
        refine g_istore_n F 2 [(0, .ref (A 0)), (1, .int (nI (b i0))), (2, .int (nI (sumB (fun x => dd (b i0) x) b (i + 1)))), (3, .int (nI i))] [1, 2, 0, 3] dX10_sumFrom_33 rfl (by decide) rfl ?_
        refine g_iinc F (nI (i + 1)) 3 3 [(0, .ref (A 0)), (1, .int (nI (b i0))), (2, .int (nI (sumB (fun x => dd (b i0) x) b (i + 1)))), (3, .int (nI (i + 1)))] [1, 2, 3, 0] dX10_sumFrom_34 rfl (n_inc i) (by decide) rfl ?_
        refine g_goto F 4 dX10_sumFrom_37 (by decide) ?_
        exact ih_4 (i + 1) (by omega) (by omega)
  exact lp_4 _ 0 (by omega) (Nat.lt_succ_self _)

set_option maxHeartbeats 4000000 in
set_option maxRecDepth 100000 in
theorem c_X10_isBeyondResults (E : Ev) (A : Nat → Nat) (kn : Nat → Int32) (kd : Nat) (rf : Nat → Int32) (rg : Nat → Int32) (rk : Nat) (dd : Nat → Nat → Nat) (rt : Nat → Nat) (x : Nat) (r0 : Nat) (hrk : rk ≤ 60) (hr : r0 < 2 ^ 31) (hx : x < 60) (hrf : ∀ i, i < rk → rf i = nI (rt i) ∧ rt i < 60 ∧ kn (x * 60 + rt i) = nI (dd x (rt i)) ∧ dd x (rt i) ≤ 100000) : CTi E yX10_isBeyondResults (wq yX10_isBeyondResults cX10_isBeyondResults 4 (some .boolean)) (rmk 1 22) [.ref (A 0), .int (nI x), .int (nI r0)] [ob (A 0) 10 [.ref (A 1), .ref (A 5), .ref (A 8), .ref (A 10), .ref (A 12), .ref (A 15), .ref (A 17), .ref (A 21), .ref (A 23), .ref (A 25)], ob (A 8) 3 [.ref (A 1), .ref (A 5), .ref (A 9), .int (nI kd)], ia E (A 9) 3600 kn, ob (A 12) 7 [.ref (A 13), .ref (A 14), .int (nI rk)], ia E (A 13) 60 rf, ia E (A 14) 60 rg] (fun (r : Int32) (u : Unit) => (r = 1 ∧ ∀ i, i < rk → r0 < dd x (rt i)) ∨ (r = 0 ∧ ∃ i, i < rk ∧ dd x (rt i) ≤ r0)) (fun (u : Unit) => [ob (A 0) 10 [.ref (A 1), .ref (A 5), .ref (A 8), .ref (A 10), .ref (A 12), .ref (A 15), .ref (A 17), .ref (A 21), .ref (A 23), .ref (A 25)], ob (A 8) 3 [.ref (A 1), .ref (A 5), .ref (A 9), .int (nI kd)], ia E (A 9) 3600 kn, ob (A 12) 7 [.ref (A 13), .ref (A 14), .int (nI rk)], ia E (A 13) 60 rf, ia E (A 14) 60 rg]) := by
  refine CTi.ofZ (by decide) (Nat.le_of_ble_eq_true rfl) (fun X F R => ?_)
  refine g_lv [0, 1, 2] [(0, .ref (A 0)), (1, .int (nI x)), (2, .int (nI r0))] rfl ?_
  refine g_iconst F (nI 0) (by decide) dX10_isBeyondResults_0 ?_
  refine g_istore_n F 3 [(0, .ref (A 0)), (1, .int (nI x)), (2, .int (nI r0)), (3, .int (nI 0))] [1, 2, 3, 0] dX10_isBeyondResults_1 rfl (by decide) rfl ?_
  have lp_2 : ∀ (n_2 : Nat) (i : Nat), (i ≤ rk) → (∀ j, j < i → r0 < dd x (rt j)) → rk - i < n_2 → GW E X 0 0 [ob (A 0) 10 [.ref (A 1), .ref (A 5), .ref (A 8), .ref (A 10), .ref (A 12), .ref (A 15), .ref (A 17), .ref (A 21), .ref (A 23), .ref (A 25)], ob (A 8) 3 [.ref (A 1), .ref (A 5), .ref (A 9), .int (nI kd)], ia E (A 9) 3600 kn, ob (A 12) 7 [.ref (A 13), .ref (A 14), .int (nI rk)], ia E (A 13) 60 rf, ia E (A 14) 60 rg] [(0, .ref (A 0)), (1, .int (nI x)), (2, .int (nI r0)), (3, .int (nI i))] 2 [] := by
    intro n_2
    induction n_2 with
    | zero => intro i hi hp hm_2; exact absurd hm_2 (Nat.not_lt_zero _)
    | succ n_2 ih_2 =>
      intro i hi hp hm_2
      refine g_iload_n F 3 rfl dX10_isBeyondResults_2 ?_
      refine g_aload_n F 0 rfl dX10_isBeyondResults_3 ?_
      refine g_get F 10 0 4 inX10 rfl rfl (by decide) tw_fl_X10_42 rfl dX10_isBeyondResults_4 ?_
      refine g_rVi F (wr := [ob (A 0) 10 [.ref (A 1), .ref (A 5), .ref (A 8), .ref (A 10), .ref (A 12), .ref (A 15), .ref (A 17), .ref (A 21), .ref (A 23), .ref (A 25)], ob (A 8) 3 [.ref (A 1), .ref (A 5), .ref (A 9), .int (nI kd)], ia E (A 9) 3600 kn]) [.int (nI i)] (c_X7_size E (A 12) (A 13) (A 14) rf rg rk ) (gi_V tw_ml_X10_147 tw_im_X7_size tw_se_X7_size tw_in_X7 tw_co_X7_size) 0 rfl (by decide) ⟨rfl, rfl, by decide, by decide, Nat.zero_le _, Nat.zero_le _⟩ 7 0 rfl rfl [3, 4, 5] [0, 1, 2] [0, 1, 2, 3, 4, 5] rfl rfl (by decide) rfl rfl (Nat.le_of_ble_eq_true rfl) dX10_isBeyondResults_7 ?_
      refine n_icmp_ge F 41 dX10_isBeyondResults_10 (by decide) (by omega) (by omega) (fun c_10 => ?_) (fun c_10 => ?_)
      · refine g_iconst F (nI 1) (by decide) dX10_isBeyondResults_41 ?_
        exact R _ (()) _ _ dX10_isBeyondResults_42 (Or.inr rfl) (Or.inl ⟨rfl, fun j hj => hp j (by omega)⟩)
      · refine g_aload_n F 0 rfl dX10_isBeyondResults_13 ?_
        refine g_get F 10 0 2 inX10 rfl rfl (by decide) tw_fl_X10_28 rfl dX10_isBeyondResults_14 ?_
        refine g_iload_n F 1 rfl dX10_isBeyondResults_17 ?_
        refine g_aload_n F 0 rfl dX10_isBeyondResults_18 ?_
        refine g_get F 10 0 4 inX10 rfl rfl (by decide) tw_fl_X10_42 rfl dX10_isBeyondResults_19 ?_
        refine g_iload_n F 3 rfl dX10_isBeyondResults_22 ?_
        refine g_rVi F (wr := [ob (A 0) 10 [.ref (A 1), .ref (A 5), .ref (A 8), .ref (A 10), .ref (A 12), .ref (A 15), .ref (A 17), .ref (A 21), .ref (A 23), .ref (A 25)], ob (A 8) 3 [.ref (A 1), .ref (A 5), .ref (A 9), .int (nI kd)], ia E (A 9) 3600 kn]) [.int (nI x), .ref (A 8)] (c_X7_thingAt E (A 12) (A 13) (A 14) rf rg rk i (by omega)) (gi_V tw_ml_X10_148 tw_im_X7_thingAt tw_se_X7_thingAt tw_in_X7 tw_co_X7_thingAt) 1 rfl (by decide) ⟨rfl, rfl, by decide, by decide, Nat.zero_le _, Nat.zero_le _⟩ 7 0 rfl rfl [3, 4, 5] [0, 1, 2] [0, 1, 2, 3, 4, 5] rfl rfl (by decide) rfl rfl (Nat.le_of_ble_eq_true rfl) dX10_isBeyondResults_23 ?_
        refine g_top (nI (rt i)) ((hrf i c_10).1) ?_
        refine g_rVi F (wr := [ob (A 0) 10 [.ref (A 1), .ref (A 5), .ref (A 8), .ref (A 10), .ref (A 12), .ref (A 15), .ref (A 17), .ref (A 21), .ref (A 23), .ref (A 25)], ob (A 12) 7 [.ref (A 13), .ref (A 14), .int (nI rk)], ia E (A 13) 60 rf, ia E (A 14) 60 rg]) [] (c_X3_at E (A 8) (A 1) (A 5) (A 9) kn kd dd x (rt i) (hx) ((hrf i c_10).2.1) ((hrf i c_10).2.2.1)) (gi_V tw_ml_X10_219 tw_im_X3_at tw_se_X3_at tw_in_X3 tw_co_X3_at) 2 rfl (by decide) ⟨rfl, rfl, by decide, by decide, Nat.zero_le _, Nat.zero_le _⟩ 3 0 rfl rfl [1, 2] [0, 3, 4, 5] [0, 4, 5, 1, 2, 3] rfl rfl (by decide) rfl rfl (Nat.le_of_ble_eq_true rfl) dX10_isBeyondResults_26 ?_
        refine g_iload_n F 2 rfl dX10_isBeyondResults_29 ?_
        refine n_icmp_gt F 35 dX10_isBeyondResults_30 (by decide) (by have := (hrf i c_10).2.2.2; omega) (by omega) (fun c_30 => ?_) (fun c_30 => ?_)
        · refine g_iinc F (nI (i + 1)) 3 3 [(0, .ref (A 0)), (1, .int (nI x)), (2, .int (nI r0)), (3, .int (nI (i + 1)))] [1, 2, 3, 0] dX10_isBeyondResults_35 rfl (n_inc i) (by decide) rfl ?_
          refine g_goto F 2 dX10_isBeyondResults_38 (by decide) ?_
          exact ih_2 (i + 1) (by omega) (lt_s hp c_30) (by omega)
        · refine g_iconst F (nI 0) (by decide) dX10_isBeyondResults_33 ?_
          exact R _ (()) _ _ dX10_isBeyondResults_34 (Or.inl rfl) (Or.inr ⟨rfl, i, c_10, c_30⟩)
  exact lp_2 _ 0 (by omega) (fun j h => absurd h (Nat.not_lt_zero j)) (Nat.lt_succ_self _)
