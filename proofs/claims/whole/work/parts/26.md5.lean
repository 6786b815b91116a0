def sumI (g : Nat → Nat) (I : Nat → Bool) : Nat → Nat
  | 0 => 0
  | i + 1 => sumI g I i + (if I i = true then g i else 0)
theorem sumI_1 {g : Nat → Nat} {I : Nat → Bool} {i : Nat} (h : I i = true) : sumI g I i + g i = sumI g I (i + 1) := by
  show _ = sumI g I i + _
  rw [if_pos h]
theorem sumI_0 {g : Nat → Nat} {I : Nat → Bool} {i : Nat} (h : I i = false) : sumI g I i + 0 = sumI g I (i + 1) := by
  show _ = sumI g I i + _
  rw [if_neg (by rw [h]; simp)]
theorem sumI_z {g : Nat → Nat} {I : Nat → Bool} {i : Nat} (h : g i = 0) : sumI g I i + 0 = sumI g I (i + 1) := by
  show _ = sumI g I i + _
  rw [h]
  split <;> rfl
theorem sumI_le {g : Nat → Nat} {I : Nat → Bool} {M : Nat} : ∀ i, (∀ t, t < i → I t = true → g t ≤ M) → sumI g I i ≤ M * i := by
  intro i
  induction i with
  | zero => intro _; exact Nat.zero_le _
  | succ i ih =>
    intro h
    have h1 := ih (fun t ht => h t (by omega))
    show sumI g I i + _ ≤ _
    rw [Nat.mul_succ]
    by_cases c : I i = true
    · rw [if_pos c]
      have := h i (by omega) c
      omega
    · rw [if_neg c]; omega
def LBa (n : Nat) (pp : Nat → Int32) (lab : Nat → Nat) : Prop := ∀ t, t < n → pp t = nI (lab t) ∧ lab t < 60
def TK (T : Nat → Bool) (t : Nat → Nat) (c : Nat) : Prop := ∀ x, x < 60 → (T x = true ↔ ∃ i, i < c ∧ t i = x)
theorem tk_set {T : Nat → Bool} {t : Nat → Nat} {c s : Nat} (h : TK T t c) : TK (setB T s) (setN t c s) (c + 1) := by
  intro x hx
  unfold setB
  by_cases q : x = s
  · rw [if_pos q, q]
    exact ⟨fun _ => ⟨c, by omega, setN_s t c s⟩, fun _ => rfl⟩
  · rw [if_neg q, h x hx]
    constructor
    · rintro ⟨i, hi, e⟩
      exact ⟨i, by omega, by rw [setN_n (by omega)]; exact e⟩
    · rintro ⟨i, hi, e⟩
      rcases Nat.lt_or_ge i c with y | y
      · exact ⟨i, y, by rw [setN_n (by omega)] at e; exact e⟩
      · rw [show i = c by omega, setN_s] at e
        exact absurd e.symm q
theorem ce_1 {dd : Nat → Nat → Nat} {I : Nat → Bool} {f : Nat} (h1 : I f = true) (h2 : ∀ t, t < f → I t = false) : CE dd I (fun _ => f) (fun _ => 0) 1 := by
  intro i hi
  obtain rfl : i = 0 := by omega
  refine ⟨h1, fun j hj => absurd hj (Nat.not_lt_zero j), fun _ => ⟨rfl, fun x hx => ?_⟩, fun h => absurd h (Nat.lt_irrefl 0)⟩
  rcases Nat.lt_or_ge x f with q | q
  · rw [h2 x q] at hx; cases hx
  · exact q
/-- the reference's own key of a centre to come: the farthest first, of like ones the lowest -/
def ky (D : Nat → Nat) (t : Nat) : Nat := (2147483647 - D t) * 60 + t
theorem ce_step {dd : Nat → Nat → Nat} {I T : Nat → Bool} {t g : Nat → Nat} {c s : Nat} (hc : 1 ≤ c) (h : CE dd I t g c) (hT : TK T t c) (h60 : ∀ x, I x = true → x < 60) (hsy : ∀ x y, I x = true → I y = true → dd x y = dd y x) (hle : ∀ x y, I x = true → I y = true → dd x y ≤ 100000) (h1 : I s = true) (h2 : T s = false) (h3 : ∀ x, I x = true → T x = false → ky (fun x => mrN dd x t c) s ≤ ky (fun x => mrN dd x t c) x) : CE dd I (setN t c s) (setN g c (mrN dd s t c)) (c + 1) := by
  have low : ∀ j, j < c → setN t c s j = t j := fun j hj => setN_n (by omega)
  have mm : ∀ q x, q ≤ c → md dd (setN t c s) q x = md dd t q x := fun q x hq => md_congr x (fun j hj => low j (by omega))
  have mr : ∀ x, I x = true → mrN dd x t c = md dd t c x := fun x hx => mr_md c hc (fun i hi => ⟨hsy x (t i) hx (h i hi).1, hle _ _ (h i hi).1 hx⟩)
  intro i hi
  rcases Nat.lt_or_ge i c with q | q
  · obtain ⟨a1, a2, a3, a4⟩ := h i q
    rw [low i q, setN_n (show i ≠ c by omega)]
    refine ⟨a1, fun j hj => by rw [low j (by omega)]; exact a2 j hj, a3, fun hi0 => ?_⟩
    obtain ⟨a5, a6⟩ := a4 hi0
    refine ⟨by rw [mm i _ (by omega)]; exact a5, fun x hx hne => ?_⟩
    rw [mm i _ (by omega)]
    exact a6 x hx (fun j hj => by rw [← low j (by omega)]; exact hne j hj)
  · have e : i = c := by omega
    subst e
    rw [setN_s, setN_s]
    refine ⟨h1, fun j hj e => ?_, fun e => absurd e (by omega), fun _ => ⟨by rw [mm i _ (Nat.le_refl _)]; exact mr s h1, fun x hx hne => ?_⟩⟩
    · rw [low j hj] at e
      have := (hT s (h60 s h1)).mpr ⟨j, hj, e⟩
      rw [h2] at this; cases this
    · rw [mm i _ (Nat.le_refl _), mr s h1]
      have hTx : T x = false := by
        cases z : T x with
        | false => rfl
        | true =>
          obtain ⟨j, hj, e⟩ := (hT x (h60 x hx)).mp z
          exact absurd (by rw [low j hj]; exact e) (hne j hj)
      have k := h3 x hx hTx
      unfold ky at k
      simp only [mr s h1, mr x hx] at k
      have b1 := md_le dd t i s
      have b2 := md_le dd t i x
      have b3 := h60 x hx
      have b4 := h60 s h1
      omega
theorem ce_rad {dd : Nat → Nat → Nat} {I : Nat → Bool} {t g : Nat → Nat} {c m : Nat} (hc : 1 ≤ c) (h : CE dd I t g c) (hsy : ∀ x y, I x = true → I y = true → dd x y = dd y x) (hle : ∀ x y, I x = true → I y = true → dd x y ≤ 100000) (hz : ∀ x, I x = true → dd x x = 0) (h1 : ∀ x, I x = true → mrN dd x t c ≤ m) (h2 : m = 0 ∨ ∃ x, I x = true ∧ mrN dd x t c = m) : RAD dd I t c m := by
  have mr : ∀ x, I x = true → mrN dd x t c = md dd t c x := fun x hx => mr_md c hc (fun i hi => ⟨hsy x (t i) hx (h i hi).1, hle _ _ (h i hi).1 hx⟩)
  refine ⟨fun x hx => by rw [← mr x hx]; exact h1 x hx, ?_⟩
  rcases h2 with e | ⟨x, hx, e⟩
  · have i0 := (h 0 (by omega)).1
    refine ⟨t 0, i0, ?_⟩
    have := md_at (dd := dd) (t := t) (x := t 0) (show 0 < c by omega)
    rw [hz _ i0] at this
    omega
  · exact ⟨x, hx, by rw [← mr x hx]; exact e⟩

set_option maxHeartbeats 4000000 in
set_option maxRecDepth 100000 in
theorem c_X11_centres (E : Ev) (A : Nat → Nat) (ln : Nat → Int32) (pl : Nat → Int32) (td : Nat → Int32) (zi : Nat → Int32) (rf : Nat → Int32) (rg : Nat → Int32) (co : Nat → Int32) (bs : Nat → Int32) (zt : Nat → Int32) (al : Nat → Int32) (pp : Nat → Int32) (pw : Nat → Int32) (ph : Nat → Int32) (n : Nat) (kd : Nat) (rk : Nat) (ps : Int32) (L : Nat → Nat) (tN : Nat → Nat) (I : Nat → Bool) (rt : Nat → Nat) (ra : Nat → Nat) (x : Int32) (hK : MDK n kd L ln pl tN td) (hZ : ZI n zi I) (hR : NBR rk rf rg rt ra) : CTi E yX11_centres (wq yX11_centres cX11_centres 5 (some .int)) (rmk 5 121) [.ref (A 0), .int x] [ob (A 0) 11 [.int (nI n), .int (nI kd), .ref (A 1), .ref (A 2), .ref (A 3), .ref (A 4), .int (nI rk), .ref (A 5), .ref (A 6), .ref (A 7), .ref (A 8), .ref (A 9), .ref (A 10), .ref (A 11), .int ps, .ref (A 12), .ref (A 13)], ia E (A 1) 60 ln, ia E (A 2) 480 pl, ia E (A 3) 3600 td, za E (A 4) 60 zi, ia E (A 5) 60 rf, ia E (A 6) 60 rg, ia E (A 7) 81 co, ia E (A 8) 3 bs, za E (A 9) 60 zt, ia E (A 10) 3600 al, ia E (A 11) 60 pp, ia E (A 12) 60 pw, ia E (A 13) 60 ph] (fun (r : Int32) (u : (Nat → Int32) × (Nat → Int32) × (Nat → Int32) × (Nat → Int32) × (Nat → Int32) × Nat) => (∃ k0, 1 ≤ k0 ∧ k0 ≤ 60 ∧ x = nI k0 ∧ cI I n ≠ 0 ∧ LWK kd tN n ∧ ∃ t g ro, CE (dsN kd L pl tN) I t g (Nat.min k0 (cI I n)) ∧ RAD (dsN kd L pl tN) I t (Nat.min k0 (cI I n)) ro ∧ r = nI ro ∧ u.2.2.2.2.2 = Nat.min k0 (cI I n) ∧ ∀ j, j < Nat.min k0 (cI I n) → u.2.2.2.1 j = nI (t j) ∧ u.2.2.2.2.1 j = nI (g j)) ∨ (((∀ k0, 1 ≤ k0 → k0 ≤ 60 → x ≠ nI k0) ∨ cI I n = 0 ∨ ¬ LWK kd tN n) ∧ r = -1 ∧ u.2.2.2.1 = rf ∧ u.2.2.2.2.1 = rg ∧ u.2.2.2.2.2 = rk)) (fun (u : (Nat → Int32) × (Nat → Int32) × (Nat → Int32) × (Nat → Int32) × (Nat → Int32) × Nat) => [ob (A 0) 11 [.int (nI n), .int (nI kd), .ref (A 1), .ref (A 2), .ref (A 3), .ref (A 4), .int (nI u.2.2.2.2.2), .ref (A 5), .ref (A 6), .ref (A 7), .ref (A 8), .ref (A 9), .ref (A 10), .ref (A 11), .int ps, .ref (A 12), .ref (A 13)], ia E (A 1) 60 ln, ia E (A 2) 480 pl, ia E (A 3) 3600 td, za E (A 4) 60 zi, ia E (A 5) 60 u.2.2.2.1, ia E (A 6) 60 u.2.2.2.2.1, ia E (A 7) 81 u.1, ia E (A 8) 3 u.2.1, za E (A 9) 60 u.2.2.1, ia E (A 10) 3600 al, ia E (A 11) 60 pp, ia E (A 12) 60 pw, ia E (A 13) 60 ph]) := by
  refine CTi.of (by decide) (Nat.le_of_ble_eq_true rfl) (fun X F R => ?_)
  refine g_lv [0, 1] [(0, .ref (A 0)), (1, .int x)] rfl ?_
  have hn60 := hK.1
  have hI60 : ∀ t, I t = true → t < 60 := fun t ht => Nat.lt_of_lt_of_le (hZ.2 t ht) hn60
  have hcl := cI_le I n
  refine g_iload_n F 1 rfl dX11_centres_0 ?_
  refine g_iconst F (nI 1) (by decide) dX11_centres_1 ?_
  refine g_bipush F (nI 60) (by decide) dX11_centres_2 ?_
  refine g_cSi F (wr := [ob (A 0) 11 [.int (nI n), .int (nI kd), .ref (A 1), .ref (A 2), .ref (A 3), .ref (A 4), .int (nI rk), .ref (A 5), .ref (A 6), .ref (A 7), .ref (A 8), .ref (A 9), .ref (A 10), .ref (A 11), .int ps, .ref (A 12), .ref (A 13)], ia E (A 1) 60 ln, ia E (A 2) 480 pl, ia E (A 3) 3600 td, za E (A 4) 60 zi, ia E (A 5) 60 rf, ia E (A 6) 60 rg, ia E (A 7) 81 co, ia E (A 8) 3 bs, za E (A 9) 60 zt, ia E (A 10) 3600 al, ia E (A 11) 60 pp, ia E (A 12) 60 pw, ia E (A 13) 60 ph]) [] (c_X11_lies E x (nI 1) (nI 60) ) ⟨tw_ml_X11_54, tw_sm_X11_lies, tw_in_X11, tw_co_X11_lies⟩ 3 rfl (by decide) ⟨rfl, rfl, by decide, by decide, Nat.zero_le _, Nat.zero_le _⟩ [] [0, 1, 2, 3, 4, 5, 6, 7, 8, 9, 10, 11, 12, 13] [0, 1, 2, 3, 4, 5, 6, 7, 8, 9, 10, 11, 12, 13] (fun u => [ob (A 0) 11 [.int (nI n), .int (nI kd), .ref (A 1), .ref (A 2), .ref (A 3), .ref (A 4), .int (nI rk), .ref (A 5), .ref (A 6), .ref (A 7), .ref (A 8), .ref (A 9), .ref (A 10), .ref (A 11), .int ps, .ref (A 12), .ref (A 13)], ia E (A 1) 60 ln, ia E (A 2) 480 pl, ia E (A 3) 3600 td, za E (A 4) 60 zi, ia E (A 5) 60 rf, ia E (A 6) 60 rg, ia E (A 7) 81 co, ia E (A 8) 3 bs, za E (A 9) 60 zt, ia E (A 10) 3600 al, ia E (A 11) 60 pp, ia E (A 12) 60 pw, ia E (A 13) 60 ph]) rfl rfl (by decide) (fun _ => rfl) rfl (Nat.le_of_ble_eq_true rfl) dX11_centres_4 (fun r_4 u hu_4 => ?_)
  rcases hu_4 with ⟨rfl, l1_4, l2_4⟩ | ⟨rfl, l0_4⟩
  · refine g_if_eq F 24 dX11_centres_7 (by decide) (fun h => absurd h (by decide)) (fun _ => ?_)
    refine g_aload_n F 0 rfl dX11_centres_10 ?_
    refine g_rVi F (wr := []) [] (c_X11_inBook E A ln pl td zi rf rg co bs zt al pp pw ph n kd rk ps L tN I (hK) (hZ)) (gi_V tw_ml_X11_112 tw_im_X11_inBook tw_se_X11_inBook tw_in_X11 tw_co_X11_inBook) 0 rfl (by decide) ⟨rfl, rfl, by decide, by decide, Nat.zero_le _, Nat.zero_le _⟩ 11 0 rfl rfl [0, 1, 2, 3, 4, 5, 6, 7, 8, 9, 10, 11, 12, 13] [] [0, 1, 2, 3, 4, 5, 6, 7, 8, 9, 10, 11, 12, 13] rfl rfl (by decide) rfl rfl (Nat.le_of_ble_eq_true rfl) dX11_centres_11 ?_
    refine n_if_eq F 24 dX11_centres_14 (by decide) (by omega) (fun c_14 => ?_) (fun c_14 => ?_)
    · refine g_iconst F (-1) (by decide) dX11_centres_24 ?_
      exact R _ ((co, bs, zt, rf, rg, rk)) _ _ dX11_centres_25 (by (try dsimp only); exact (Or.inr ⟨Or.inr (Or.inl c_14), rfl, rfl, rfl, rfl⟩))
    · refine g_aload_n F 0 rfl dX11_centres_17 ?_
      refine g_cVi F (wr := []) [] (c_X11_holds E A ln pl td zi rf rg co bs zt al pp pw ph n kd rk ps L tN I (hK) (hZ)) (gi_V tw_ml_X11_89 tw_im_X11_holds tw_se_X11_holds tw_in_X11 tw_co_X11_holds) 0 rfl (by decide) ⟨rfl, rfl, by decide, by decide, Nat.zero_le _, Nat.zero_le _⟩ 11 0 rfl rfl [0, 1, 2, 3, 4, 5, 6, 7, 8, 9, 10, 11, 12, 13] [] [0, 1, 2, 3, 4, 5, 6, 7, 8, 9, 10, 11, 12, 13] (fun u => [ob (A 0) 11 [.int (nI n), .int (nI kd), .ref (A 1), .ref (A 2), .ref (A 3), .ref (A 4), .int (nI rk), .ref (A 5), .ref (A 6), .ref (A 7), .ref (A 8), .ref (A 9), .ref (A 10), .ref (A 11), .int ps, .ref (A 12), .ref (A 13)], ia E (A 1) 60 ln, ia E (A 2) 480 pl, ia E (A 3) 3600 td, za E (A 4) 60 zi, ia E (A 5) 60 rf, ia E (A 6) 60 rg, ia E (A 7) 81 co, ia E (A 8) 3 u, za E (A 9) 60 zt, ia E (A 10) 3600 al, ia E (A 11) 60 pp, ia E (A 12) 60 pw, ia E (A 13) 60 ph]) rfl rfl (by decide) (fun _ => rfl) rfl (Nat.le_of_ble_eq_true rfl) dX11_centres_18 (fun r_18 u hu_18 => ?_)
      revert hu_18; revert u; intro bs2_18 hu_18
      rcases hu_18 with ⟨rfl, hlw⟩ | ⟨rfl, hk5, htb⟩
      · refine g_if_ne F 26 dX11_centres_21 (by decide) (fun _ => ?_) (fun h => absurd h (by decide))
        obtain ⟨k9, hk1, hk2, rfl⟩ := i32_rng (lo := 1) (hi := 60) (by decide) (by decide) l1_4 l2_4
        obtain ⟨e9, he9, hIe⟩ := cI_find (I := I) n (by omega)
        have hmn := nmin_cases k9 (cI I n)
        refine g_aload_n F 0 rfl dX11_centres_26 ?_
        refine g_cVv F (wr := []) [] (c_X11_takesNone E A ln pl td zi rf rg co bs2_18 zt al pp pw ph n kd rk ps L tN I (hK) (hZ)) (gi_V tw_ml_X11_96 tw_im_X11_takesNone tw_se_X11_takesNone tw_in_X11 tw_co_X11_takesNone) 0 rfl (by decide) ⟨rfl, rfl, by decide, by decide, Nat.zero_le _, Nat.zero_le _⟩ 11 0 rfl rfl [0, 1, 2, 3, 4, 5, 6, 7, 8, 9, 10, 11, 12, 13] [] [0, 1, 2, 3, 4, 5, 6, 7, 8, 9, 10, 11, 12, 13] (fun u => [ob (A 0) 11 [.int (nI n), .int (nI kd), .ref (A 1), .ref (A 2), .ref (A 3), .ref (A 4), .int (nI rk), .ref (A 5), .ref (A 6), .ref (A 7), .ref (A 8), .ref (A 9), .ref (A 10), .ref (A 11), .int ps, .ref (A 12), .ref (A 13)], ia E (A 1) 60 ln, ia E (A 2) 480 pl, ia E (A 3) 3600 td, za E (A 4) 60 zi, ia E (A 5) 60 rf, ia E (A 6) 60 rg, ia E (A 7) 81 co, ia E (A 8) 3 bs2_18, za E (A 9) 60 u, ia E (A 10) 3600 al, ia E (A 11) 60 pp, ia E (A 12) 60 pw, ia E (A 13) 60 ph]) rfl rfl (by decide) (fun _ => rfl) rfl (Nat.le_of_ble_eq_true rfl) dX11_centres_27 (fun u hu_27 => ?_)
        revert hu_27; revert u; intro zt_0 hu_27
        refine g_aload_n F 0 rfl dX11_centres_30 ?_
        refine g_iconst F (nI 0) (by decide) dX11_centres_31 ?_
        refine g_put F 11 0 6 [ob (A 0) 11 [.int (nI n), .int (nI kd), .ref (A 1), .ref (A 2), .ref (A 3), .ref (A 4), .int (nI 0), .ref (A 5), .ref (A 6), .ref (A 7), .ref (A 8), .ref (A 9), .ref (A 10), .ref (A 11), .int ps, .ref (A 12), .ref (A 13)], ia E (A 1) 60 ln, ia E (A 2) 480 pl, ia E (A 3) 3600 td, za E (A 4) 60 zi, ia E (A 5) 60 rf, ia E (A 6) 60 rg, ia E (A 7) 81 co, ia E (A 8) 3 bs2_18, za E (A 9) 60 zt_0, ia E (A 10) 3600 al, ia E (A 11) 60 pp, ia E (A 12) 60 pw, ia E (A 13) 60 ph] inX11 tyX11_ok nmX11 rfl rfl (by decide) tw_fl_X11_93 rfl rfl rfl rfl (Nat.le_of_ble_eq_true rfl) rfl dX11_centres_32 ?_
        refine g_iconst F (nI 0) (by decide) dX11_centres_35 ?_
        refine g_istore_n F 2 [(0, .ref (A 0)), (1, .int (nI k9)), (2, .int (nI 0))] [1, 2, 0] dX11_centres_36 rfl (by decide) rfl ?_
        have lp_37 : ∀ (n_37 : Nat) (f0 : Nat), (f0 ≤ e9) → (∀ t, t < f0 → I t = false) → e9 + 1 - f0 < n_37 → GW E X 0 0 [ob (A 0) 11 [.int (nI n), .int (nI kd), .ref (A 1), .ref (A 2), .ref (A 3), .ref (A 4), .int (nI 0), .ref (A 5), .ref (A 6), .ref (A 7), .ref (A 8), .ref (A 9), .ref (A 10), .ref (A 11), .int ps, .ref (A 12), .ref (A 13)], ia E (A 1) 60 ln, ia E (A 2) 480 pl, ia E (A 3) 3600 td, za E (A 4) 60 zi, ia E (A 5) 60 rf, ia E (A 6) 60 rg, ia E (A 7) 81 co, ia E (A 8) 3 bs2_18, za E (A 9) 60 zt_0, ia E (A 10) 3600 al, ia E (A 11) 60 pp, ia E (A 12) 60 pw, ia E (A 13) 60 ph] [(0, .ref (A 0)), (1, .int (nI k9)), (2, .int (nI f0))] 37 [] := by
          intro n_37
          induction n_37 with
          | zero => intro f0 hf0 hf1 hm_37; exact absurd hm_37 (Nat.not_lt_zero _)
          | succ n_37 ih_37 =>
            intro f0 hf0 hf1 hm_37
            refine g_aload_n F 0 rfl dX11_centres_37 ?_
            refine g_get F 11 0 5 inX11 rfl rfl (by decide) tw_fl_X11_19 rfl dX11_centres_38 ?_
            refine g_iload_n F 2 rfl dX11_centres_41 ?_
            refine g_zald F 4 rfl (by omega) (by decide) dX11_centres_42 ?_
            refine g_top (bI (I f0)) (hZ.1 f0 (by omega)) ?_
            refine b_if_ne F 52 dX11_centres_43 (by decide) (fun c_43 => ?_) (fun c_43 => ?_)
            · refine g_aload_n F 0 rfl dX11_centres_52 ?_
              refine g_iload_n F 2 rfl dX11_centres_53 ?_
              refine g_iconst F (nI 0) (by decide) dX11_centres_54 ?_
              refine g_cVv F (wr := []) [] (c_X11_gives E A ln pl td zi rf rg co bs2_18 zt_0 al pp pw ph n kd 0 ps L tN I f0 (nI 0) (hK) (hZ) (by omega) (by omega)) (gi_V tw_ml_X11_103 tw_im_X11_gives tw_se_X11_gives tw_in_X11 tw_co_X11_gives) 2 rfl (by decide) ⟨rfl, rfl, by decide, by decide, Nat.zero_le _, Nat.zero_le _⟩ 11 0 rfl rfl [0, 1, 2, 3, 4, 5, 6, 7, 8, 9, 10, 11, 12, 13] [] [0, 1, 2, 3, 4, 5, 6, 7, 8, 9, 10, 11, 12, 13] (fun u => [ob (A 0) 11 [.int (nI n), .int (nI kd), .ref (A 1), .ref (A 2), .ref (A 3), .ref (A 4), .int (nI (0 + 1)), .ref (A 5), .ref (A 6), .ref (A 7), .ref (A 8), .ref (A 9), .ref (A 10), .ref (A 11), .int ps, .ref (A 12), .ref (A 13)], ia E (A 1) 60 ln, ia E (A 2) 480 pl, ia E (A 3) 3600 td, za E (A 4) 60 zi, ia E (A 5) 60 (upd rf 0 (nI f0)), ia E (A 6) 60 (upd rg 0 (nI 0)), ia E (A 7) 81 co, ia E (A 8) 3 bs2_18, za E (A 9) 60 (upd zt_0 f0 (nI 1)), ia E (A 10) 3600 al, ia E (A 11) 60 pp, ia E (A 12) 60 pw, ia E (A 13) 60 ph]) rfl rfl (by decide) (fun _ => rfl) rfl (Nat.le_of_ble_eq_true rfl) dX11_centres_55 (fun u hu_55 => ?_)
              have lp_58 : ∀ (n_58 : Nat) (c : Nat) (tt : Nat → Nat) (gg : Nat → Nat) (T : Nat → Bool) (g : Nat → Int32) (z1 : Nat → Int32) (r1 : Nat → Int32) (r2 : Nat → Int32), (1 ≤ c) → (c ≤ k9 ∧ c ≤ cI I n) → (CE (dsN kd L pl tN) I tt gg c) → (TK T tt c) → (∀ t, t < 60 → z1 t = bI (T t)) → (∀ j, j < c → r1 j = nI (tt j) ∧ r2 j = nI (gg j)) → k9 - c < n_58 → GW E X 0 0 [ob (A 0) 11 [.int (nI n), .int (nI kd), .ref (A 1), .ref (A 2), .ref (A 3), .ref (A 4), .int (nI c), .ref (A 5), .ref (A 6), .ref (A 7), .ref (A 8), .ref (A 9), .ref (A 10), .ref (A 11), .int ps, .ref (A 12), .ref (A 13)], ia E (A 1) 60 ln, ia E (A 2) 480 pl, ia E (A 3) 3600 td, za E (A 4) 60 zi, ia E (A 5) 60 r1, ia E (A 6) 60 r2, ia E (A 7) 81 g, ia E (A 8) 3 bs2_18, za E (A 9) 60 z1, ia E (A 10) 3600 al, ia E (A 11) 60 pp, ia E (A 12) 60 pw, ia E (A 13) 60 ph] [(0, .ref (A 0)), (1, .int (nI k9))] 58 [] := by
                intro n_58
                induction n_58 with
                | zero => intro c tt gg T g z1 r1 r2 hc1 hc2 hce htk hT1 hrs hm_58; exact absurd hm_58 (Nat.not_lt_zero _)
                | succ n_58 ih_58 =>
                  intro c tt gg T g z1 r1 r2 hc1 hc2 hce htk hT1 hrs hm_58
                  refine g_aload_n F 0 rfl dX11_centres_58 ?_
                  refine g_get F 11 0 6 inX11 rfl rfl (by decide) tw_fl_X11_93 rfl dX11_centres_59 ?_
                  refine g_iload_n F 1 rfl dX11_centres_62 ?_
                  refine n_icmp_ge F 152 dX11_centres_63 (by decide) (by omega) (by omega) (fun c_63 => ?_) (fun c_63 => ?_)
                  · obtain rfl : c = Nat.min k9 (cI I n) := by omega
                    refine g_aload_n F 0 rfl dX11_centres_152 ?_
                    refine g_cVi F (wr := []) [] (c_X11_radius E A ln pl td zi r1 r2 g bs2_18 z1 al pp pw ph n kd (Nat.min k9 (cI I n)) ps L tN I tt (hK) (hZ) (by omega) (fun j hj => ⟨(hrs j hj).1, hI60 _ (hce j hj).1⟩)) (gi_V tw_ml_X11_119 tw_im_X11_radius tw_se_X11_radius tw_in_X11 tw_co_X11_radius) 0 rfl (by decide) ⟨rfl, rfl, by decide, by decide, Nat.zero_le _, Nat.zero_le _⟩ 11 0 rfl rfl [0, 1, 2, 3, 4, 5, 6, 7, 8, 9, 10, 11, 12, 13] [] [0, 1, 2, 3, 4, 5, 6, 7, 8, 9, 10, 11, 12, 13] (fun u => [ob (A 0) 11 [.int (nI n), .int (nI kd), .ref (A 1), .ref (A 2), .ref (A 3), .ref (A 4), .int (nI (Nat.min k9 (cI I n))), .ref (A 5), .ref (A 6), .ref (A 7), .ref (A 8), .ref (A 9), .ref (A 10), .ref (A 11), .int ps, .ref (A 12), .ref (A 13)], ia E (A 1) 60 ln, ia E (A 2) 480 pl, ia E (A 3) 3600 td, za E (A 4) 60 zi, ia E (A 5) 60 r1, ia E (A 6) 60 r2, ia E (A 7) 81 u, ia E (A 8) 3 bs2_18, za E (A 9) 60 z1, ia E (A 10) 3600 al, ia E (A 11) 60 pp, ia E (A 12) 60 pw, ia E (A 13) 60 ph]) rfl rfl (by decide) (fun _ => rfl) rfl (Nat.le_of_ble_eq_true rfl) dX11_centres_153 (fun r_153 u hu_153 => ?_)
                    revert hu_153; revert u; intro co_r hu_153
                    obtain ⟨m9, rfl, hm1, hm2⟩ := hu_153
                    exact R _ ((co_r, bs2_18, z1, r1, r2, Nat.min k9 (cI I n))) _ _ dX11_centres_156 (by (try dsimp only); exact (Or.inl ⟨k9, hk1, hk2, rfl, c_14, hlw, tt, gg, m9, hce, ce_rad hc1 hce (fun x9 y9 h8 h9 => ds_sym hK.2.2.2.2.2 (hI60 x9 h8) (hI60 y9 h9)) (fun x9 y9 h8 h9 => ds_le hK.2.2.1 hK.2.2.2.1 hK.2.2.2.2.1 (hI60 x9 h8) (hI60 y9 h9)) (fun x9 h8 => ds_same hK.2.2.2.2.2 (hI60 x9 h8)) hm1 hm2, rfl, rfl, hrs⟩))
                  · refine g_aload_n F 0 rfl dX11_centres_66 ?_
                    refine g_get F 11 0 6 inX11 rfl rfl (by decide) tw_fl_X11_93 rfl dX11_centres_67 ?_
                    refine g_aload_n F 0 rfl dX11_centres_70 ?_
                    refine g_rVi F (wr := []) [.int (nI c)] (c_X11_inBook E A ln pl td zi r1 r2 g bs2_18 z1 al pp pw ph n kd c ps L tN I (hK) (hZ)) (gi_V tw_ml_X11_112 tw_im_X11_inBook tw_se_X11_inBook tw_in_X11 tw_co_X11_inBook) 0 rfl (by decide) ⟨rfl, rfl, by decide, by decide, Nat.zero_le _, Nat.zero_le _⟩ 11 0 rfl rfl [0, 1, 2, 3, 4, 5, 6, 7, 8, 9, 10, 11, 12, 13] [] [0, 1, 2, 3, 4, 5, 6, 7, 8, 9, 10, 11, 12, 13] rfl rfl (by decide) rfl rfl (Nat.le_of_ble_eq_true rfl) dX11_centres_71 ?_
                    refine n_icmp_ge F 152 dX11_centres_74 (by decide) (by omega) (by omega) (fun c_74 => ?_) (fun c_74 => ?_)
                    · obtain rfl : c = Nat.min k9 (cI I n) := by omega
                      refine g_aload_n F 0 rfl dX11_centres_152 ?_
                      refine g_cVi F (wr := []) [] (c_X11_radius E A ln pl td zi r1 r2 g bs2_18 z1 al pp pw ph n kd (Nat.min k9 (cI I n)) ps L tN I tt (hK) (hZ) (by omega) (fun j hj => ⟨(hrs j hj).1, hI60 _ (hce j hj).1⟩)) (gi_V tw_ml_X11_119 tw_im_X11_radius tw_se_X11_radius tw_in_X11 tw_co_X11_radius) 0 rfl (by decide) ⟨rfl, rfl, by decide, by decide, Nat.zero_le _, Nat.zero_le _⟩ 11 0 rfl rfl [0, 1, 2, 3, 4, 5, 6, 7, 8, 9, 10, 11, 12, 13] [] [0, 1, 2, 3, 4, 5, 6, 7, 8, 9, 10, 11, 12, 13] (fun u => [ob (A 0) 11 [.int (nI n), .int (nI kd), .ref (A 1), .ref (A 2), .ref (A 3), .ref (A 4), .int (nI (Nat.min k9 (cI I n))), .ref (A 5), .ref (A 6), .ref (A 7), .ref (A 8), .ref (A 9), .ref (A 10), .ref (A 11), .int ps, .ref (A 12), .ref (A 13)], ia E (A 1) 60 ln, ia E (A 2) 480 pl, ia E (A 3) 3600 td, za E (A 4) 60 zi, ia E (A 5) 60 r1, ia E (A 6) 60 r2, ia E (A 7) 81 u, ia E (A 8) 3 bs2_18, za E (A 9) 60 z1, ia E (A 10) 3600 al, ia E (A 11) 60 pp, ia E (A 12) 60 pw, ia E (A 13) 60 ph]) rfl rfl (by decide) (fun _ => rfl) rfl (Nat.le_of_ble_eq_true rfl) dX11_centres_153 (fun r_153 u hu_153 => ?_)
                      revert hu_153; revert u; intro co_r hu_153
                      obtain ⟨m9, rfl, hm1, hm2⟩ := hu_153
                      exact R _ ((co_r, bs2_18, z1, r1, r2, Nat.min k9 (cI I n))) _ _ dX11_centres_156 (by (try dsimp only); exact (Or.inl ⟨k9, hk1, hk2, rfl, c_14, hlw, tt, gg, m9, hce, ce_rad hc1 hce (fun x9 y9 h8 h9 => ds_sym hK.2.2.2.2.2 (hI60 x9 h8) (hI60 y9 h9)) (fun x9 y9 h8 h9 => ds_le hK.2.2.1 hK.2.2.2.1 hK.2.2.2.2.1 (hI60 x9 h8) (hI60 y9 h9)) (fun x9 h8 => ds_same hK.2.2.2.2.2 (hI60 x9 h8)) hm1 hm2, rfl, rfl, hrs⟩))
                    · refine g_iconst F (-1) (by decide) dX11_centres_77 ?_
                      refine g_istore_n F 3 [(0, .ref (A 0)), (1, .int (nI k9)), (3, .int (-1))] [1, 2, 0] dX11_centres_78 rfl (by decide) rfl ?_
                      refine g_iconst F (nI 0) (by decide) dX11_centres_79 ?_
                      refine g_istore F 4 [(0, .ref (A 0)), (1, .int (nI k9)), (3, .int (-1)), (4, .int (nI 0))] [1, 2, 3, 0] dX11_centres_80 (by decide) rfl ?_
                      have lp_82 : ∀ (n_82 : Nat) (i : Nat) (w : Int32) (g2 : Nat → Int32), (i ≤ n) → (NXP (ky (fun x => mrN (dsN kd L pl tN) x tt c)) I T i w) → n - i < n_82 → GW E X 0 0 [ob (A 0) 11 [.int (nI n), .int (nI kd), .ref (A 1), .ref (A 2), .ref (A 3), .ref (A 4), .int (nI c), .ref (A 5), .ref (A 6), .ref (A 7), .ref (A 8), .ref (A 9), .ref (A 10), .ref (A 11), .int ps, .ref (A 12), .ref (A 13)], ia E (A 1) 60 ln, ia E (A 2) 480 pl, ia E (A 3) 3600 td, za E (A 4) 60 zi, ia E (A 5) 60 r1, ia E (A 6) 60 r2, ia E (A 7) 81 g2, ia E (A 8) 3 bs2_18, za E (A 9) 60 z1, ia E (A 10) 3600 al, ia E (A 11) 60 pp, ia E (A 12) 60 pw, ia E (A 13) 60 ph] [(0, .ref (A 0)), (1, .int (nI k9)), (3, .int w), (4, .int (nI i))] 82 [] := by
                        intro n_82
                        induction n_82 with
                        | zero => intro i w g2 hi hw hm_82; exact absurd hm_82 (Nat.not_lt_zero _)
                        | succ n_82 ih_82 =>
                          intro i w g2 hi hw hm_82
                          refine g_iload F 3 rfl dX11_centres_82 ?_
                          refine g_aload_n F 0 rfl dX11_centres_84 ?_
                          refine g_get F 11 0 0 inX11 rfl rfl (by decide) tw_fl_X11_50 rfl dX11_centres_85 ?_
                          refine n_icmp_ge F 139 dX11_centres_88 (by decide) (by omega) (by omega) (fun c_88 => ?_) (fun c_88 => ?_)
                          · have hnx := nx_fin hZ (show NXP (ky (fun x => mrN (dsN kd L pl tN) x tt c)) I T n w by rw [show n = i by omega]; exact hw)
                            obtain ⟨s, rfl, hs2, hs3, hs4⟩ := hnx.resolve_left (fun z => by
                                have := cI_sub c I tt n (fun x1 h1 h2 => (htk x1 (by omega)).mp (z.2 x1 h2))
                                omega)
                            have hs60 := hI60 s hs2
                            refine g_aload_n F 0 rfl dX11_centres_139 ?_
                            refine g_iload_n F 2 rfl dX11_centres_140 ?_
                            refine g_aload_n F 0 rfl dX11_centres_141 ?_
                            refine g_iload_n F 2 rfl dX11_centres_142 ?_
                            refine g_cVi F (wr := []) [.int (nI s), .ref (A 0)] (c_X11_fromResults E A ln pl td zi r1 r2 g2 bs2_18 z1 al pp pw ph n kd c ps L tN I s tt (hK) (hZ) (hs60) (by omega) (fun j hj => ⟨(hrs j hj).1, hI60 _ (hce j hj).1⟩)) (gi_V tw_ml_X11_116 tw_im_X11_fromResults tw_se_X11_fromResults tw_in_X11 tw_co_X11_fromResults) 1 rfl (by decide) ⟨rfl, rfl, by decide, by decide, Nat.zero_le _, Nat.zero_le _⟩ 11 0 rfl rfl [0, 1, 2, 3, 4, 5, 6, 7, 8, 9, 10, 11, 12, 13] [] [0, 1, 2, 3, 4, 5, 6, 7, 8, 9, 10, 11, 12, 13] (fun u => [ob (A 0) 11 [.int (nI n), .int (nI kd), .ref (A 1), .ref (A 2), .ref (A 3), .ref (A 4), .int (nI c), .ref (A 5), .ref (A 6), .ref (A 7), .ref (A 8), .ref (A 9), .ref (A 10), .ref (A 11), .int ps, .ref (A 12), .ref (A 13)], ia E (A 1) 60 ln, ia E (A 2) 480 pl, ia E (A 3) 3600 td, za E (A 4) 60 zi, ia E (A 5) 60 r1, ia E (A 6) 60 r2, ia E (A 7) 81 u, ia E (A 8) 3 bs2_18, za E (A 9) 60 z1, ia E (A 10) 3600 al, ia E (A 11) 60 pp, ia E (A 12) 60 pw, ia E (A 13) 60 ph]) rfl rfl (by decide) (fun _ => rfl) rfl (Nat.le_of_ble_eq_true rfl) dX11_centres_143 (fun r_143 u hu_143 => ?_)
                            revert hu_143; revert u; intro co_143 hu_143
                            subst hu_143
                            refine g_cVv F (wr := []) [] (c_X11_gives E A ln pl td zi r1 r2 co_143 bs2_18 z1 al pp pw ph n kd c ps L tN I s (nI (mrN (dsN kd L pl tN) s tt c)) (hK) (hZ) (hs60) (by omega)) (gi_V tw_ml_X11_103 tw_im_X11_gives tw_se_X11_gives tw_in_X11 tw_co_X11_gives) 2 rfl (by decide) ⟨rfl, rfl, by decide, by decide, Nat.zero_le _, Nat.zero_le _⟩ 11 0 rfl rfl [0, 1, 2, 3, 4, 5, 6, 7, 8, 9, 10, 11, 12, 13] [] [0, 1, 2, 3, 4, 5, 6, 7, 8, 9, 10, 11, 12, 13] (fun u => [ob (A 0) 11 [.int (nI n), .int (nI kd), .ref (A 1), .ref (A 2), .ref (A 3), .ref (A 4), .int (nI (c + 1)), .ref (A 5), .ref (A 6), .ref (A 7), .ref (A 8), .ref (A 9), .ref (A 10), .ref (A 11), .int ps, .ref (A 12), .ref (A 13)], ia E (A 1) 60 ln, ia E (A 2) 480 pl, ia E (A 3) 3600 td, za E (A 4) 60 zi, ia E (A 5) 60 (upd r1 c (nI s)), ia E (A 6) 60 (upd r2 c (nI (mrN (dsN kd L pl tN) s tt c))), ia E (A 7) 81 co_143, ia E (A 8) 3 bs2_18, za E (A 9) 60 (upd z1 s (nI 1)), ia E (A 10) 3600 al, ia E (A 11) 60 pp, ia E (A 12) 60 pw, ia E (A 13) 60 ph]) rfl rfl (by decide) (fun _ => rfl) rfl (Nat.le_of_ble_eq_true rfl) dX11_centres_146 (fun u hu_146 => ?_)
                            refine g_goto F 58 dX11_centres_149 (by decide) ?_
                            refine g_lv [0, 1] [(0, .ref (A 0)), (1, .int (nI k9))] rfl ?_
                            exact ih_58 (c + 1) (setN tt c s) (setN gg c (mrN (dsN kd L pl tN) s tt c)) (setB T s) co_143 (upd z1 s (nI 1)) (upd r1 c (nI s)) (upd r2 c (nI (mrN (dsN kd L pl tN) s tt c))) (by omega) (by omega) (ce_step hc1 hce htk hI60 (fun x9 y9 h8 h9 => ds_sym hK.2.2.2.2.2 (hI60 x9 h8) (hI60 y9 h9)) (fun x9 y9 h8 h9 => ds_le hK.2.2.1 hK.2.2.2.1 hK.2.2.2.2.1 (hI60 x9 h8) (hI60 y9 h9)) hs2 hs3 hs4) (tk_set htk) (fun t ht => by
                                unfold upd setB
                                split
                                · rfl
                                · exact hT1 t ht) (lt_s (fun j hj => by
                                rw [pk_un (by omega), pk_un (by omega), setN_n (by omega), setN_n (by omega)]
                                exact hrs j hj) (by
                                rw [pk_us, pk_us, setN_s, setN_s]
                                exact ⟨rfl, rfl⟩)) (by omega)
                          · refine g_aload_n F 0 rfl dX11_centres_91 ?_
                            refine g_get F 11 0 5 inX11 rfl rfl (by decide) tw_fl_X11_19 rfl dX11_centres_92 ?_
                            refine g_iload F 3 rfl dX11_centres_95 ?_
                            refine g_zald F 4 rfl (by omega) (by decide) dX11_centres_97 ?_
                            refine g_top (bI (I i)) (hZ.1 i (by omega)) ?_
                            refine b_if_eq F 133 dX11_centres_98 (by decide) (fun c_98 => ?_) (fun c_98 => ?_)
                            · refine g_iinc F (nI (i + 1)) 4 3 [(0, .ref (A 0)), (1, .int (nI k9)), (3, .int w), (4, .int (nI (i + 1)))] [1, 2, 3, 0] dX11_centres_133 rfl (n_inc i) (by decide) rfl ?_
                              refine g_goto F 82 dX11_centres_136 (by decide) ?_
                              exact ih_82 (i + 1) w g2 (by omega) (nx_skip hw (fun z => by rw [c_98] at z; cases z)) (by omega)
                            · refine g_aload_n F 0 rfl dX11_centres_101 ?_
                              refine g_get F 11 0 11 inX11 rfl rfl (by decide) tw_fl_X11_35 rfl dX11_centres_102 ?_
                              refine g_iload F 3 rfl dX11_centres_105 ?_
                              refine g_zald F 9 rfl (by omega) (by decide) dX11_centres_107 ?_
                              refine g_top (bI (T i)) (hT1 i (by omega)) ?_
                              refine b_if_ne F 133 dX11_centres_108 (by decide) (fun c_108 => ?_) (fun c_108 => ?_)
                              · refine g_iinc F (nI (i + 1)) 4 3 [(0, .ref (A 0)), (1, .int (nI k9)), (3, .int w), (4, .int (nI (i + 1)))] [1, 2, 3, 0] dX11_centres_133 rfl (n_inc i) (by decide) rfl ?_
                                refine g_goto F 82 dX11_centres_136 (by decide) ?_
                                exact ih_82 (i + 1) w g2 (by omega) (nx_skip hw (fun _ => c_108)) (by omega)
                              · refine g_iload_n F 2 rfl dX11_centres_111 ?_
                                refine g_iconst F (-1) (by decide) dX11_centres_112 ?_
                                refine g_icmp_eq F 130 dX11_centres_113 (by decide) (fun c_113 => ?_) (fun c_113 => ?_)
                                · refine g_iload F 3 rfl dX11_centres_130 ?_
                                  refine g_istore_n F 3 [(0, .ref (A 0)), (1, .int (nI k9)), (3, .int (nI i)), (4, .int (nI i))] [1, 2, 0, 3] dX11_centres_132 rfl (by decide) rfl ?_
                                  refine g_iinc F (nI (i + 1)) 4 3 [(0, .ref (A 0)), (1, .int (nI k9)), (3, .int (nI i)), (4, .int (nI (i + 1)))] [1, 2, 3, 0] dX11_centres_133 rfl (n_inc i) (by decide) rfl ?_
                                  refine g_goto F 82 dX11_centres_136 (by decide) ?_
                                  exact ih_82 (i + 1) (nI i) g2 (by omega) (nx_new hw c_113 c_98 c_108 (by omega)) (by omega)
                                · obtain ⟨s, rfl, hs1, hs2, hs3, hs4⟩ := hw.resolve_left (fun z => c_113 z.1)
                                  refine g_aload_n F 0 rfl dX11_centres_116 ?_
                                  refine g_iload F 3 rfl dX11_centres_117 ?_
                                  refine g_cVi F (wr := []) [] (c_X11_fromResults E A ln pl td zi r1 r2 g2 bs2_18 z1 al pp pw ph n kd c ps L tN I i tt (hK) (hZ) (by omega) (by omega) (fun j hj => ⟨(hrs j hj).1, hI60 _ (hce j hj).1⟩)) (gi_V tw_ml_X11_116 tw_im_X11_fromResults tw_se_X11_fromResults tw_in_X11 tw_co_X11_fromResults) 1 rfl (by decide) ⟨rfl, rfl, by decide, by decide, Nat.zero_le _, Nat.zero_le _⟩ 11 0 rfl rfl [0, 1, 2, 3, 4, 5, 6, 7, 8, 9, 10, 11, 12, 13] [] [0, 1, 2, 3, 4, 5, 6, 7, 8, 9, 10, 11, 12, 13] (fun u => [ob (A 0) 11 [.int (nI n), .int (nI kd), .ref (A 1), .ref (A 2), .ref (A 3), .ref (A 4), .int (nI c), .ref (A 5), .ref (A 6), .ref (A 7), .ref (A 8), .ref (A 9), .ref (A 10), .ref (A 11), .int ps, .ref (A 12), .ref (A 13)], ia E (A 1) 60 ln, ia E (A 2) 480 pl, ia E (A 3) 3600 td, za E (A 4) 60 zi, ia E (A 5) 60 r1, ia E (A 6) 60 r2, ia E (A 7) 81 u, ia E (A 8) 3 bs2_18, za E (A 9) 60 z1, ia E (A 10) 3600 al, ia E (A 11) 60 pp, ia E (A 12) 60 pw, ia E (A 13) 60 ph]) rfl rfl (by decide) (fun _ => rfl) rfl (Nat.le_of_ble_eq_true rfl) dX11_centres_119 (fun r_119 u hu_119 => ?_)
                                  revert hu_119; revert u; intro co_119 hu_119
                                  subst hu_119
                                  refine g_aload_n F 0 rfl dX11_centres_122 ?_
                                  refine g_iload_n F 2 rfl dX11_centres_123 ?_
                                  refine g_cVi F (wr := []) [.int (nI (mrN (dsN kd L pl tN) i tt c))] (c_X11_fromResults E A ln pl td zi r1 r2 co_119 bs2_18 z1 al pp pw ph n kd c ps L tN I s tt (hK) (hZ) (by omega) (by omega) (fun j hj => ⟨(hrs j hj).1, hI60 _ (hce j hj).1⟩)) (gi_V tw_ml_X11_116 tw_im_X11_fromResults tw_se_X11_fromResults tw_in_X11 tw_co_X11_fromResults) 1 rfl (by decide) ⟨rfl, rfl, by decide, by decide, Nat.zero_le _, Nat.zero_le _⟩ 11 0 rfl rfl [0, 1, 2, 3, 4, 5, 6, 7, 8, 9, 10, 11, 12, 13] [] [0, 1, 2, 3, 4, 5, 6, 7, 8, 9, 10, 11, 12, 13] (fun u => [ob (A 0) 11 [.int (nI n), .int (nI kd), .ref (A 1), .ref (A 2), .ref (A 3), .ref (A 4), .int (nI c), .ref (A 5), .ref (A 6), .ref (A 7), .ref (A 8), .ref (A 9), .ref (A 10), .ref (A 11), .int ps, .ref (A 12), .ref (A 13)], ia E (A 1) 60 ln, ia E (A 2) 480 pl, ia E (A 3) 3600 td, za E (A 4) 60 zi, ia E (A 5) 60 r1, ia E (A 6) 60 r2, ia E (A 7) 81 u, ia E (A 8) 3 bs2_18, za E (A 9) 60 z1, ia E (A 10) 3600 al, ia E (A 11) 60 pp, ia E (A 12) 60 pw, ia E (A 13) 60 ph]) rfl rfl (by decide) (fun _ => rfl) rfl (Nat.le_of_ble_eq_true rfl) dX11_centres_124 (fun r_124 u hu_124 => ?_)
                                  revert hu_124; revert u; intro co_124 hu_124
                                  subst hu_124
                                  refine n_icmp_le F 133 dX11_centres_127 (by decide) (by have := mr_le (dsN kd L pl tN) i tt c; omega) (by have := mr_le (dsN kd L pl tN) s tt c; omega) (fun c_127 => ?_) (fun c_127 => ?_)
                                  · refine g_iinc F (nI (i + 1)) 4 3 [(0, .ref (A 0)), (1, .int (nI k9)), (3, .int (nI s)), (4, .int (nI (i + 1)))] [1, 2, 3, 0] dX11_centres_133 rfl (n_inc i) (by decide) rfl ?_
                                    refine g_goto F 82 dX11_centres_136 (by decide) ?_
                                    exact ih_82 (i + 1) (nI s) co_124 (by omega) (nx_keep hs1 hs2 hs3 hs4 (by
                                        have d1 := mr_le (dsN kd L pl tN) s tt c
                                        have d2 := mr_le (dsN kd L pl tN) i tt c
                                        unfold ky
                                        simp only
                                        omega)) (by omega)
                                  · refine g_iload F 3 rfl dX11_centres_130 ?_
                                    refine g_istore_n F 3 [(0, .ref (A 0)), (1, .int (nI k9)), (3, .int (nI i)), (4, .int (nI i))] [1, 2, 0, 3] dX11_centres_132 rfl (by decide) rfl ?_
                                    refine g_iinc F (nI (i + 1)) 4 3 [(0, .ref (A 0)), (1, .int (nI k9)), (3, .int (nI i)), (4, .int (nI (i + 1)))] [1, 2, 3, 0] dX11_centres_133 rfl (n_inc i) (by decide) rfl ?_
                                    refine g_goto F 82 dX11_centres_136 (by decide) ?_
                                    exact ih_82 (i + 1) (nI i) co_124 (by omega) (nx_take c_98 c_108 hs4 (by
                                        have d1 := mr_le (dsN kd L pl tN) s tt c
                                        have d2 := mr_le (dsN kd L pl tN) i tt c
                                        unfold ky
                                        simp only
                                        omega)) (by omega)
                      exact lp_82 _ 0 (-1) g (by omega) (Or.inl ⟨rfl, fun t h => absurd h (Nat.not_lt_zero t)⟩) (Nat.lt_succ_self _)
              skip
              refine g_lv [0, 1] [(0, .ref (A 0)), (1, .int (nI k9))] rfl ?_
              exact lp_58 _ 1 (fun _ => f0) (fun _ => 0) (setB (fun _ => false) f0) co (upd zt_0 f0 (nI 1)) (upd rf 0 (nI f0)) (upd rg 0 (nI 0)) (by omega) (by omega) (ce_1 c_43 hf1) (by
                  have := tk_set (T := fun _ => false) (t := fun _ => f0) (c := 0) (s := f0) (fun x1 h1 => ⟨fun z => by simp at z, fun ⟨i1, h2, _⟩ => absurd h2 (Nat.not_lt_zero i1)⟩)
                  intro x1 h1
                  rw [this x1 h1]
                  exact ⟨fun ⟨i1, h2, h3⟩ => ⟨i1, h2, by unfold setN at h3; split at h3 <;> exact h3⟩, fun ⟨i1, h2, h3⟩ => ⟨i1, h2, by unfold setN; split <;> exact h3⟩⟩) (fun t ht => by
                  unfold upd setB
                  split
                  · rfl
                  · exact hu_27 t ht) (fun j hj => by
                  obtain rfl : j = 0 := by omega
                  exact ⟨pk_us, pk_us⟩) (Nat.lt_succ_self _)
            · refine g_iinc F (nI (f0 + 1)) 2 2 [(0, .ref (A 0)), (1, .int (nI k9)), (2, .int (nI (f0 + 1)))] [1, 2, 0] dX11_centres_46 rfl (n_inc f0) (by decide) rfl ?_
              refine g_goto F 37 dX11_centres_49 (by decide) ?_
              exact ih_37 (f0 + 1) (by rcases Nat.lt_or_ge f0 e9 with q | q; exact q; rw [show f0 = e9 by omega] at c_43; rw [hIe] at c_43; cases c_43) (lt_s hf1 c_43) (by omega)
        exact lp_37 _ 0 (by omega) (fun t h => absurd h (Nat.not_lt_zero t)) (Nat.lt_succ_self _)
      · refine g_if_ne F 26 dX11_centres_21 (by decide) (fun h => absurd (by decide) h) (fun _ => ?_)
        refine g_iconst F (-1) (by decide) dX11_centres_24 ?_
        exact R _ ((co, bs2_18, zt, rf, rg, rk)) _ _ dX11_centres_25 (by (try dsimp only); exact (Or.inr ⟨Or.inr (Or.inr (lwk_no hk5 htb)), rfl, rfl, rfl, rfl⟩))
  · refine g_if_eq F 24 dX11_centres_7 (by decide) (fun _ => ?_) (fun h => absurd (by decide) h)
    refine g_iconst F (-1) (by decide) dX11_centres_24 ?_
    exact R _ ((co, bs, zt, rf, rg, rk)) _ _ dX11_centres_25 (by (try dsimp only); exact (Or.inr ⟨Or.inl (i32_no (lo := 1) (hi := 60) (by decide) l0_4), rfl, rfl, rfl, rfl⟩))

set_option maxHeartbeats 4000000 in
set_option maxRecDepth 100000 in
theorem c_X11_alonePieces (E : Ev) (A : Nat → Nat) (ln : Nat → Int32) (pl : Nat → Int32) (td : Nat → Int32) (zi : Nat → Int32) (rf : Nat → Int32) (rg : Nat → Int32) (co : Nat → Int32) (bs : Nat → Int32) (zt : Nat → Int32) (al : Nat → Int32) (pp : Nat → Int32) (pw : Nat → Int32) (ph : Nat → Int32) (n : Nat) (kd : Nat) (rk : Nat) (ps : Int32) (L : Nat → Nat) (tN : Nat → Nat) (I : Nat → Bool) (hK : MDK n kd L ln pl tN td) (hZ : ZI n zi I) : CTv E yX11_alonePieces (wq yX11_alonePieces cX11_alonePieces 2 none) (rmk 0 0) [.ref (A 0)] [ob (A 0) 11 [.int (nI n), .int (nI kd), .ref (A 1), .ref (A 2), .ref (A 3), .ref (A 4), .int (nI rk), .ref (A 5), .ref (A 6), .ref (A 7), .ref (A 8), .ref (A 9), .ref (A 10), .ref (A 11), .int ps, .ref (A 12), .ref (A 13)], ia E (A 1) 60 ln, ia E (A 2) 480 pl, ia E (A 3) 3600 td, za E (A 4) 60 zi, ia E (A 5) 60 rf, ia E (A 6) 60 rg, ia E (A 7) 81 co, ia E (A 8) 3 bs, za E (A 9) 60 zt, ia E (A 10) 3600 al, ia E (A 11) 60 pp, ia E (A 12) 60 pw, ia E (A 13) 60 ph] (fun (u : (Nat → Int32)) => LBa 60 u (fun t => t)) (fun (u : (Nat → Int32)) => [ob (A 0) 11 [.int (nI n), .int (nI kd), .ref (A 1), .ref (A 2), .ref (A 3), .ref (A 4), .int (nI rk), .ref (A 5), .ref (A 6), .ref (A 7), .ref (A 8), .ref (A 9), .ref (A 10), .ref (A 11), .int ps, .ref (A 12), .ref (A 13)], ia E (A 1) 60 ln, ia E (A 2) 480 pl, ia E (A 3) 3600 td, za E (A 4) 60 zi, ia E (A 5) 60 rf, ia E (A 6) 60 rg, ia E (A 7) 81 co, ia E (A 8) 3 bs, za E (A 9) 60 zt, ia E (A 10) 3600 al, ia E (A 11) 60 u, ia E (A 12) 60 pw, ia E (A 13) 60 ph]) := by
  refine CTv.of (by decide) (Nat.le_of_ble_eq_true rfl) (fun X F R => ?_)
  refine g_lv [0] [(0, .ref (A 0))] rfl ?_
  refine g_iconst F (nI 0) (by decide) dX11_alonePieces_0 ?_
  refine g_istore_n F 1 [(0, .ref (A 0)), (1, .int (nI 0))] [1, 0] dX11_alonePieces_1 rfl (by decide) rfl ?_
  have lp_2 : ∀ (n_2 : Nat) (i : Nat) (g : Nat → Int32), (i ≤ 60) → (∀ t, t < i → g t = nI t) → 60 - i < n_2 → GW E X 0 0 [ob (A 0) 11 [.int (nI n), .int (nI kd), .ref (A 1), .ref (A 2), .ref (A 3), .ref (A 4), .int (nI rk), .ref (A 5), .ref (A 6), .ref (A 7), .ref (A 8), .ref (A 9), .ref (A 10), .ref (A 11), .int ps, .ref (A 12), .ref (A 13)], ia E (A 1) 60 ln, ia E (A 2) 480 pl, ia E (A 3) 3600 td, za E (A 4) 60 zi, ia E (A 5) 60 rf, ia E (A 6) 60 rg, ia E (A 7) 81 co, ia E (A 8) 3 bs, za E (A 9) 60 zt, ia E (A 10) 3600 al, ia E (A 11) 60 g, ia E (A 12) 60 pw, ia E (A 13) 60 ph] [(0, .ref (A 0)), (1, .int (nI i))] 2 [] := by
    intro n_2
    induction n_2 with
    | zero => intro i g hi hg hm_2; exact absurd hm_2 (Nat.not_lt_zero _)
    | succ n_2 ih_2 =>
      intro i g hi hg hm_2
      refine g_iload_n F 1 rfl dX11_alonePieces_2 ?_
      refine g_bipush F (nI 60) (by decide) dX11_alonePieces_3 ?_
      refine n_icmp_ge F 21 dX11_alonePieces_5 (by decide) (by omega) (by omega) (fun c_5 => ?_) (fun c_5 => ?_)
      · exact R g _ _ dX11_alonePieces_21 (fun t ht => ⟨hg t (by omega), ht⟩)
      · refine g_aload_n F 0 rfl dX11_alonePieces_8 ?_
        refine g_get F 11 0 13 inX11 rfl rfl (by decide) tw_fl_X11_41 rfl dX11_alonePieces_9 ?_
        refine g_iload_n F 1 rfl dX11_alonePieces_12 ?_
        refine g_iload_n F 1 rfl dX11_alonePieces_13 ?_
        refine g_iast F 11 [ob (A 0) 11 [.int (nI n), .int (nI kd), .ref (A 1), .ref (A 2), .ref (A 3), .ref (A 4), .int (nI rk), .ref (A 5), .ref (A 6), .ref (A 7), .ref (A 8), .ref (A 9), .ref (A 10), .ref (A 11), .int ps, .ref (A 12), .ref (A 13)], ia E (A 1) 60 ln, ia E (A 2) 480 pl, ia E (A 3) 3600 td, za E (A 4) 60 zi, ia E (A 5) 60 rf, ia E (A 6) 60 rg, ia E (A 7) 81 co, ia E (A 8) 3 bs, za E (A 9) 60 zt, ia E (A 10) 3600 al, ia E (A 11) 60 (upd g i (nI i)), ia E (A 12) 60 pw, ia E (A 13) 60 ph] rfl (by omega) (by decide) rfl dX11_alonePieces_14 ?_
        refine g_iinc F (nI (i + 1)) 1 1 [(0, .ref (A 0)), (1, .int (nI (i + 1)))] [1, 0] dX11_alonePieces_15 rfl (n_inc i) (by decide) rfl ?_
        refine g_goto F 2 dX11_alonePieces_18 (by decide) ?_
        exact ih_2 (i + 1) (upd g i (nI i)) (by omega) (lt_s (fun t ht => (pk_un (by omega)).trans (hg t ht)) pk_us) (by omega)
  exact lp_2 _ 0 pp (by omega) (fun t h => absurd h (Nat.not_lt_zero t)) (Nat.lt_succ_self _)

set_option maxHeartbeats 4000000 in
set_option maxRecDepth 100000 in
theorem c_X11_joins (E : Ev) (A : Nat → Nat) (ln : Nat → Int32) (pl : Nat → Int32) (td : Nat → Int32) (zi : Nat → Int32) (rf : Nat → Int32) (rg : Nat → Int32) (co : Nat → Int32) (bs : Nat → Int32) (zt : Nat → Int32) (al : Nat → Int32) (pp : Nat → Int32) (pw : Nat → Int32) (ph : Nat → Int32) (n : Nat) (kd : Nat) (rk : Nat) (ps : Int32) (L : Nat → Nat) (tN : Nat → Nat) (I : Nat → Bool) (p0 : Nat) (q0 : Nat) (lab : Nat → Nat) (hK : MDK n kd L ln pl tN td) (hZ : ZI n zi I) (hp : p0 < n) (hq : q0 < n) (hl : LBa n pp lab) : CTv E yX11_joins (wq yX11_joins cX11_joins 6 none) (rmk 0 0) [.ref (A 0), .int (nI p0), .int (nI q0)] [ob (A 0) 11 [.int (nI n), .int (nI kd), .ref (A 1), .ref (A 2), .ref (A 3), .ref (A 4), .int (nI rk), .ref (A 5), .ref (A 6), .ref (A 7), .ref (A 8), .ref (A 9), .ref (A 10), .ref (A 11), .int ps, .ref (A 12), .ref (A 13)], ia E (A 1) 60 ln, ia E (A 2) 480 pl, ia E (A 3) 3600 td, za E (A 4) 60 zi, ia E (A 5) 60 rf, ia E (A 6) 60 rg, ia E (A 7) 81 co, ia E (A 8) 3 bs, za E (A 9) 60 zt, ia E (A 10) 3600 al, ia E (A 11) 60 pp, ia E (A 12) 60 pw, ia E (A 13) 60 ph] (fun (u : (Nat → Int32)) => LBa n u (jn lab (lab p0) (lab q0))) (fun (u : (Nat → Int32)) => [ob (A 0) 11 [.int (nI n), .int (nI kd), .ref (A 1), .ref (A 2), .ref (A 3), .ref (A 4), .int (nI rk), .ref (A 5), .ref (A 6), .ref (A 7), .ref (A 8), .ref (A 9), .ref (A 10), .ref (A 11), .int ps, .ref (A 12), .ref (A 13)], ia E (A 1) 60 ln, ia E (A 2) 480 pl, ia E (A 3) 3600 td, za E (A 4) 60 zi, ia E (A 5) 60 rf, ia E (A 6) 60 rg, ia E (A 7) 81 co, ia E (A 8) 3 bs, za E (A 9) 60 zt, ia E (A 10) 3600 al, ia E (A 11) 60 u, ia E (A 12) 60 pw, ia E (A 13) 60 ph]) := by
  refine CTv.of (by decide) (Nat.le_of_ble_eq_true rfl) (fun X F R => ?_)
  refine g_lv [0, 1, 2] [(0, .ref (A 0)), (1, .int (nI p0)), (2, .int (nI q0))] rfl ?_
  have hn60 := hK.1
  have hlp := (hl p0 hp).2
  have hlq := (hl q0 hq).2
  refine g_aload_n F 0 rfl dX11_joins_0 ?_
  refine g_get F 11 0 13 inX11 rfl rfl (by decide) tw_fl_X11_41 rfl dX11_joins_1 ?_
  refine g_iload_n F 1 rfl dX11_joins_4 ?_
  refine g_iald F 11 rfl (by omega) (by decide) dX11_joins_5 ?_
  refine g_top (nI (lab p0)) ((hl p0 hp).1) ?_
  refine g_aload_n F 0 rfl dX11_joins_6 ?_
  refine g_get F 11 0 13 inX11 rfl rfl (by decide) tw_fl_X11_41 rfl dX11_joins_7 ?_
  refine g_iload_n F 2 rfl dX11_joins_10 ?_
  refine g_iald F 11 rfl (by omega) (by decide) dX11_joins_11 ?_
  refine g_top (nI (lab q0)) ((hl q0 hq).1) ?_
  refine n_icmp_le F 24 dX11_joins_12 (by decide) (by omega) (by omega) (fun c_12 => ?_) (fun c_12 => ?_)
  · refine g_aload_n F 0 rfl dX11_joins_24 ?_
    refine g_get F 11 0 13 inX11 rfl rfl (by decide) tw_fl_X11_41 rfl dX11_joins_25 ?_
    refine g_iload_n F 2 rfl dX11_joins_28 ?_
    refine g_iald F 11 rfl (by omega) (by decide) dX11_joins_29 ?_
    refine g_top (nI (lab q0)) ((hl q0 hq).1) ?_
    refine g_istore_n F 3 [(0, .ref (A 0)), (1, .int (nI p0)), (2, .int (nI q0)), (3, .int (nI (lab q0)))] [1, 2, 3, 0] dX11_joins_30 rfl (by decide) rfl ?_
    refine g_aload_n F 0 rfl dX11_joins_31 ?_
    refine g_get F 11 0 13 inX11 rfl rfl (by decide) tw_fl_X11_41 rfl dX11_joins_32 ?_
    refine g_iload_n F 1 rfl dX11_joins_35 ?_
    refine g_iald F 11 rfl (by omega) (by decide) dX11_joins_36 ?_
    refine g_top (nI (lab p0)) ((hl p0 hp).1) ?_
    refine g_aload_n F 0 rfl dX11_joins_37 ?_
    refine g_get F 11 0 13 inX11 rfl rfl (by decide) tw_fl_X11_41 rfl dX11_joins_38 ?_
    refine g_iload_n F 2 rfl dX11_joins_41 ?_
    refine g_iald F 11 rfl (by omega) (by decide) dX11_joins_42 ?_
    refine g_top (nI (lab q0)) ((hl q0 hq).1) ?_
    refine n_icmp_le F 55 dX11_joins_43 (by decide) (by omega) (by omega) (fun c_43 => ?_) (fun c_43 => ?_)
    · have hmxb : Nat.max (lab p0) (lab q0) = lab q0 ∧ Nat.min (lab p0) (lab q0) = lab p0 := ⟨Nat.max_eq_right (by omega), Nat.min_eq_left (by omega)⟩
      refine g_aload_n F 0 rfl dX11_joins_55 ?_
      refine g_get F 11 0 13 inX11 rfl rfl (by decide) tw_fl_X11_41 rfl dX11_joins_56 ?_
      refine g_iload_n F 1 rfl dX11_joins_59 ?_
      refine g_iald F 11 rfl (by omega) (by decide) dX11_joins_60 ?_
      refine g_top (nI (lab p0)) ((hl p0 hp).1) ?_
      refine g_istore F 4 [(0, .ref (A 0)), (1, .int (nI p0)), (2, .int (nI q0)), (3, .int (nI (lab q0))), (4, .int (nI (lab p0)))] [1, 2, 3, 4, 0] dX11_joins_61 (by decide) rfl ?_
      refine g_iconst F (nI 0) (by decide) dX11_joins_63 ?_
      refine g_istore F 5 [(0, .ref (A 0)), (1, .int (nI p0)), (2, .int (nI q0)), (3, .int (nI (lab q0))), (4, .int (nI (lab p0))), (5, .int (nI 0))] [1, 2, 3, 4, 5, 0] dX11_joins_64 (by decide) rfl ?_
      have lp_66 : ∀ (n_66 : Nat) (i : Nat) (g : Nat → Int32), (i ≤ n) → (∀ t, t < i → g t = nI (jn lab (lab p0) (lab q0) t)) → (∀ t, i ≤ t → g t = pp t) → n - i < n_66 → GW E X 0 0 [ob (A 0) 11 [.int (nI n), .int (nI kd), .ref (A 1), .ref (A 2), .ref (A 3), .ref (A 4), .int (nI rk), .ref (A 5), .ref (A 6), .ref (A 7), .ref (A 8), .ref (A 9), .ref (A 10), .ref (A 11), .int ps, .ref (A 12), .ref (A 13)], ia E (A 1) 60 ln, ia E (A 2) 480 pl, ia E (A 3) 3600 td, za E (A 4) 60 zi, ia E (A 5) 60 rf, ia E (A 6) 60 rg, ia E (A 7) 81 co, ia E (A 8) 3 bs, za E (A 9) 60 zt, ia E (A 10) 3600 al, ia E (A 11) 60 g, ia E (A 12) 60 pw, ia E (A 13) 60 ph] [(0, .ref (A 0)), (1, .int (nI p0)), (2, .int (nI q0)), (3, .int (nI (lab q0))), (4, .int (nI (lab p0))), (5, .int (nI i))] 66 [] := by
        intro n_66
        induction n_66 with
        | zero => intro i g hi g1 g2 hm_66; exact absurd hm_66 (Nat.not_lt_zero _)
        | succ n_66 ih_66 =>
          intro i g hi g1 g2 hm_66
          refine g_iload F 5 rfl dX11_joins_66 ?_
          refine g_aload_n F 0 rfl dX11_joins_68 ?_
          refine g_get F 11 0 0 inX11 rfl rfl (by decide) tw_fl_X11_50 rfl dX11_joins_69 ?_
          refine n_icmp_ge F 111 dX11_joins_72 (by decide) (by omega) (by omega) (fun c_72 => ?_) (fun c_72 => ?_)
          · exact R g _ _ dX11_joins_111 (fun t ht => ⟨g1 t (by omega), by
                have := (hl t ht).2
                unfold jn
                split
                · rcases nmin_cases (lab p0) (lab q0) with ⟨e9, -⟩ | ⟨e9, -⟩ <;> rw [e9] <;> omega
                · omega⟩)
          · refine g_aload_n F 0 rfl dX11_joins_75 ?_
            refine g_get F 11 0 13 inX11 rfl rfl (by decide) tw_fl_X11_41 rfl dX11_joins_76 ?_
            refine g_iload F 5 rfl dX11_joins_79 ?_
            refine g_aload_n F 0 rfl dX11_joins_81 ?_
            refine g_get F 11 0 13 inX11 rfl rfl (by decide) tw_fl_X11_41 rfl dX11_joins_82 ?_
            refine g_iload F 5 rfl dX11_joins_85 ?_
            refine g_iald F 11 rfl (by omega) (by decide) dX11_joins_87 ?_
            refine g_top (nI (lab i)) ((g2 i (Nat.le_refl _)).trans (hl i (by omega)).1) ?_
            refine g_iload_n F 3 rfl dX11_joins_88 ?_
            refine n_icmp_ne F 97 dX11_joins_89 (by decide) (by have := (hl i (by omega)).2; omega) (by omega) (fun c_89 => ?_) (fun c_89 => ?_)
            · refine g_aload_n F 0 rfl dX11_joins_97 ?_
              refine g_get F 11 0 13 inX11 rfl rfl (by decide) tw_fl_X11_41 rfl dX11_joins_98 ?_
              refine g_iload F 5 rfl dX11_joins_101 ?_
              refine g_iald F 11 rfl (by omega) (by decide) dX11_joins_103 ?_
              refine g_iast F 11 [ob (A 0) 11 [.int (nI n), .int (nI kd), .ref (A 1), .ref (A 2), .ref (A 3), .ref (A 4), .int (nI rk), .ref (A 5), .ref (A 6), .ref (A 7), .ref (A 8), .ref (A 9), .ref (A 10), .ref (A 11), .int ps, .ref (A 12), .ref (A 13)], ia E (A 1) 60 ln, ia E (A 2) 480 pl, ia E (A 3) 3600 td, za E (A 4) 60 zi, ia E (A 5) 60 rf, ia E (A 6) 60 rg, ia E (A 7) 81 co, ia E (A 8) 3 bs, za E (A 9) 60 zt, ia E (A 10) 3600 al, ia E (A 11) 60 (upd g i (g i)), ia E (A 12) 60 pw, ia E (A 13) 60 ph] rfl (by omega) (by decide) rfl dX11_joins_104 ?_
              refine g_iinc F (nI (i + 1)) 5 5 [(0, .ref (A 0)), (1, .int (nI p0)), (2, .int (nI q0)), (3, .int (nI (lab q0))), (4, .int (nI (lab p0))), (5, .int (nI (i + 1)))] [1, 2, 3, 4, 5, 0] dX11_joins_105 rfl (n_inc i) (by decide) rfl ?_
              refine g_goto F 66 dX11_joins_108 (by decide) ?_
              exact ih_66 (i + 1) (upd g i (g i)) (by omega) (lt_s (fun t ht => (pk_un (by omega)).trans (g1 t ht)) (by rw [pk_us, g2 i (Nat.le_refl _), (hl i (by omega)).1]; unfold jn; rw [hmxb.1, if_neg c_89])) (fun t ht => (pk_un (by omega)).trans (g2 t (by omega))) (by omega)
            · refine g_iload F 4 rfl dX11_joins_92 ?_
              refine g_goto F 104 dX11_joins_94 (by decide) ?_
              refine g_iast F 11 [ob (A 0) 11 [.int (nI n), .int (nI kd), .ref (A 1), .ref (A 2), .ref (A 3), .ref (A 4), .int (nI rk), .ref (A 5), .ref (A 6), .ref (A 7), .ref (A 8), .ref (A 9), .ref (A 10), .ref (A 11), .int ps, .ref (A 12), .ref (A 13)], ia E (A 1) 60 ln, ia E (A 2) 480 pl, ia E (A 3) 3600 td, za E (A 4) 60 zi, ia E (A 5) 60 rf, ia E (A 6) 60 rg, ia E (A 7) 81 co, ia E (A 8) 3 bs, za E (A 9) 60 zt, ia E (A 10) 3600 al, ia E (A 11) 60 (upd g i (nI (lab p0))), ia E (A 12) 60 pw, ia E (A 13) 60 ph] rfl (by omega) (by decide) rfl dX11_joins_104 ?_
              refine g_iinc F (nI (i + 1)) 5 5 [(0, .ref (A 0)), (1, .int (nI p0)), (2, .int (nI q0)), (3, .int (nI (lab q0))), (4, .int (nI (lab p0))), (5, .int (nI (i + 1)))] [1, 2, 3, 4, 5, 0] dX11_joins_105 rfl (n_inc i) (by decide) rfl ?_
              refine g_goto F 66 dX11_joins_108 (by decide) ?_
              exact ih_66 (i + 1) (upd g i (nI (lab p0))) (by omega) (lt_s (fun t ht => (pk_un (by omega)).trans (g1 t ht)) (by rw [pk_us]; unfold jn; rw [hmxb.1, hmxb.2, if_pos c_89])) (fun t ht => (pk_un (by omega)).trans (g2 t (by omega))) (by omega)
      exact lp_66 _ 0 pp (by omega) (fun t h => absurd h (Nat.not_lt_zero t)) (fun _ _ => rfl) (Nat.lt_succ_self _)
    · exact absurd c_43 (by omega)
  · refine g_aload_n F 0 rfl dX11_joins_15 ?_
    refine g_get F 11 0 13 inX11 rfl rfl (by decide) tw_fl_X11_41 rfl dX11_joins_16 ?_
    refine g_iload_n F 1 rfl dX11_joins_19 ?_
    refine g_iald F 11 rfl (by omega) (by decide) dX11_joins_20 ?_
    refine g_top (nI (lab p0)) ((hl p0 hp).1) ?_
    refine g_goto F 30 dX11_joins_21 (by decide) ?_
    refine g_istore_n F 3 [(0, .ref (A 0)), (1, .int (nI p0)), (2, .int (nI q0)), (3, .int (nI (lab p0)))] [1, 2, 3, 0] dX11_joins_30 rfl (by decide) rfl ?_
    refine g_aload_n F 0 rfl dX11_joins_31 ?_
    refine g_get F 11 0 13 inX11 rfl rfl (by decide) tw_fl_X11_41 rfl dX11_joins_32 ?_
    refine g_iload_n F 1 rfl dX11_joins_35 ?_
    refine g_iald F 11 rfl (by omega) (by decide) dX11_joins_36 ?_
    refine g_top (nI (lab p0)) ((hl p0 hp).1) ?_
    refine g_aload_n F 0 rfl dX11_joins_37 ?_
    refine g_get F 11 0 13 inX11 rfl rfl (by decide) tw_fl_X11_41 rfl dX11_joins_38 ?_
    refine g_iload_n F 2 rfl dX11_joins_41 ?_
    refine g_iald F 11 rfl (by omega) (by decide) dX11_joins_42 ?_
    refine g_top (nI (lab q0)) ((hl q0 hq).1) ?_
    refine n_icmp_le F 55 dX11_joins_43 (by decide) (by omega) (by omega) (fun c_43 => ?_) (fun c_43 => ?_)
    · exact absurd c_43 (by omega)
    · have hmxa : Nat.max (lab p0) (lab q0) = lab p0 ∧ Nat.min (lab p0) (lab q0) = lab q0 := ⟨Nat.max_eq_left (by omega), Nat.min_eq_right (by omega)⟩
      refine g_aload_n F 0 rfl dX11_joins_46 ?_
      refine g_get F 11 0 13 inX11 rfl rfl (by decide) tw_fl_X11_41 rfl dX11_joins_47 ?_
      refine g_iload_n F 2 rfl dX11_joins_50 ?_
      refine g_iald F 11 rfl (by omega) (by decide) dX11_joins_51 ?_
      refine g_top (nI (lab q0)) ((hl q0 hq).1) ?_
      refine g_goto F 61 dX11_joins_52 (by decide) ?_
      refine g_istore F 4 [(0, .ref (A 0)), (1, .int (nI p0)), (2, .int (nI q0)), (3, .int (nI (lab p0))), (4, .int (nI (lab q0)))] [1, 2, 3, 4, 0] dX11_joins_61 (by decide) rfl ?_
      refine g_iconst F (nI 0) (by decide) dX11_joins_63 ?_
      refine g_istore F 5 [(0, .ref (A 0)), (1, .int (nI p0)), (2, .int (nI q0)), (3, .int (nI (lab p0))), (4, .int (nI (lab q0))), (5, .int (nI 0))] [1, 2, 3, 4, 5, 0] dX11_joins_64 (by decide) rfl ?_
      have lp_66 : ∀ (n_66 : Nat) (i : Nat) (g : Nat → Int32), (i ≤ n) → (∀ t, t < i → g t = nI (jn lab (lab p0) (lab q0) t)) → (∀ t, i ≤ t → g t = pp t) → n - i < n_66 → GW E X 0 0 [ob (A 0) 11 [.int (nI n), .int (nI kd), .ref (A 1), .ref (A 2), .ref (A 3), .ref (A 4), .int (nI rk), .ref (A 5), .ref (A 6), .ref (A 7), .ref (A 8), .ref (A 9), .ref (A 10), .ref (A 11), .int ps, .ref (A 12), .ref (A 13)], ia E (A 1) 60 ln, ia E (A 2) 480 pl, ia E (A 3) 3600 td, za E (A 4) 60 zi, ia E (A 5) 60 rf, ia E (A 6) 60 rg, ia E (A 7) 81 co, ia E (A 8) 3 bs, za E (A 9) 60 zt, ia E (A 10) 3600 al, ia E (A 11) 60 g, ia E (A 12) 60 pw, ia E (A 13) 60 ph] [(0, .ref (A 0)), (1, .int (nI p0)), (2, .int (nI q0)), (3, .int (nI (lab p0))), (4, .int (nI (lab q0))), (5, .int (nI i))] 66 [] := by
        intro n_66
        induction n_66 with
        | zero => intro i g hi g1 g2 hm_66; exact absurd hm_66 (Nat.not_lt_zero _)
        | succ n_66 ih_66 =>
          intro i g hi g1 g2 hm_66
          refine g_iload F 5 rfl dX11_joins_66 ?_
          refine g_aload_n F 0 rfl dX11_joins_68 ?_
          refine g_get F 11 0 0 inX11 rfl rfl (by decide) tw_fl_X11_50 rfl dX11_joins_69 ?_
          refine n_icmp_ge F 111 dX11_joins_72 (by decide) (by omega) (by omega) (fun c_72 => ?_) (fun c_72 => ?_)
          · exact R g _ _ dX11_joins_111 (fun t ht => ⟨g1 t (by omega), by
                have := (hl t ht).2
                unfold jn
                split
                · rcases nmin_cases (lab p0) (lab q0) with ⟨e9, -⟩ | ⟨e9, -⟩ <;> rw [e9] <;> omega
                · omega⟩)
          · refine g_aload_n F 0 rfl dX11_joins_75 ?_
            refine g_get F 11 0 13 inX11 rfl rfl (by decide) tw_fl_X11_41 rfl dX11_joins_76 ?_
            refine g_iload F 5 rfl dX11_joins_79 ?_
            refine g_aload_n F 0 rfl dX11_joins_81 ?_
            refine g_get F 11 0 13 inX11 rfl rfl (by decide) tw_fl_X11_41 rfl dX11_joins_82 ?_
            refine g_iload F 5 rfl dX11_joins_85 ?_
            refine g_iald F 11 rfl (by omega) (by decide) dX11_joins_87 ?_
            refine g_top (nI (lab i)) ((g2 i (Nat.le_refl _)).trans (hl i (by omega)).1) ?_
            refine g_iload_n F 3 rfl dX11_joins_88 ?_
            refine n_icmp_ne F 97 dX11_joins_89 (by decide) (by have := (hl i (by omega)).2; omega) (by omega) (fun c_89 => ?_) (fun c_89 => ?_)
            · refine g_aload_n F 0 rfl dX11_joins_97 ?_
              refine g_get F 11 0 13 inX11 rfl rfl (by decide) tw_fl_X11_41 rfl dX11_joins_98 ?_
              refine g_iload F 5 rfl dX11_joins_101 ?_
              refine g_iald F 11 rfl (by omega) (by decide) dX11_joins_103 ?_
              refine g_iast F 11 [ob (A 0) 11 [.int (nI n), .int (nI kd), .ref (A 1), .ref (A 2), .ref (A 3), .ref (A 4), .int (nI rk), .ref (A 5), .ref (A 6), .ref (A 7), .ref (A 8), .ref (A 9), .ref (A 10), .ref (A 11), .int ps, .ref (A 12), .ref (A 13)], ia E (A 1) 60 ln, ia E (A 2) 480 pl, ia E (A 3) 3600 td, za E (A 4) 60 zi, ia E (A 5) 60 rf, ia E (A 6) 60 rg, ia E (A 7) 81 co, ia E (A 8) 3 bs, za E (A 9) 60 zt, ia E (A 10) 3600 al, ia E (A 11) 60 (upd g i (g i)), ia E (A 12) 60 pw, ia E (A 13) 60 ph] rfl (by omega) (by decide) rfl dX11_joins_104 ?_
              refine g_iinc F (nI (i + 1)) 5 5 [(0, .ref (A 0)), (1, .int (nI p0)), (2, .int (nI q0)), (3, .int (nI (lab p0))), (4, .int (nI (lab q0))), (5, .int (nI (i + 1)))] [1, 2, 3, 4, 5, 0] dX11_joins_105 rfl (n_inc i) (by decide) rfl ?_
              refine g_goto F 66 dX11_joins_108 (by decide) ?_
              exact ih_66 (i + 1) (upd g i (g i)) (by omega) (lt_s (fun t ht => (pk_un (by omega)).trans (g1 t ht)) (by rw [pk_us, g2 i (Nat.le_refl _), (hl i (by omega)).1]; unfold jn; rw [hmxa.1, if_neg c_89])) (fun t ht => (pk_un (by omega)).trans (g2 t (by omega))) (by omega)
            · refine g_iload F 4 rfl dX11_joins_92 ?_
              refine g_goto F 104 dX11_joins_94 (by decide) ?_
              refine g_iast F 11 [ob (A 0) 11 [.int (nI n), .int (nI kd), .ref (A 1), .ref (A 2), .ref (A 3), .ref (A 4), .int (nI rk), .ref (A 5), .ref (A 6), .ref (A 7), .ref (A 8), .ref (A 9), .ref (A 10), .ref (A 11), .int ps, .ref (A 12), .ref (A 13)], ia E (A 1) 60 ln, ia E (A 2) 480 pl, ia E (A 3) 3600 td, za E (A 4) 60 zi, ia E (A 5) 60 rf, ia E (A 6) 60 rg, ia E (A 7) 81 co, ia E (A 8) 3 bs, za E (A 9) 60 zt, ia E (A 10) 3600 al, ia E (A 11) 60 (upd g i (nI (lab q0))), ia E (A 12) 60 pw, ia E (A 13) 60 ph] rfl (by omega) (by decide) rfl dX11_joins_104 ?_
              refine g_iinc F (nI (i + 1)) 5 5 [(0, .ref (A 0)), (1, .int (nI p0)), (2, .int (nI q0)), (3, .int (nI (lab p0))), (4, .int (nI (lab q0))), (5, .int (nI (i + 1)))] [1, 2, 3, 4, 5, 0] dX11_joins_105 rfl (n_inc i) (by decide) rfl ?_
              refine g_goto F 66 dX11_joins_108 (by decide) ?_
              exact ih_66 (i + 1) (upd g i (nI (lab q0))) (by omega) (lt_s (fun t ht => (pk_un (by omega)).trans (g1 t ht)) (by rw [pk_us]; unfold jn; rw [hmxa.1, hmxa.2, if_pos c_89])) (fun t ht => (pk_un (by omega)).trans (g2 t (by omega))) (by omega)
      exact lp_66 _ 0 pp (by omega) (fun t h => absurd h (Nat.not_lt_zero t)) (fun _ _ => rfl) (Nat.lt_succ_self _)

set_option maxHeartbeats 4000000 in
set_option maxRecDepth 100000 in
theorem c_X11_pieces (E : Ev) (A : Nat → Nat) (ln : Nat → Int32) (pl : Nat → Int32) (td : Nat → Int32) (zi : Nat → Int32) (rf : Nat → Int32) (rg : Nat → Int32) (co : Nat → Int32) (bs : Nat → Int32) (zt : Nat → Int32) (al : Nat → Int32) (pp : Nat → Int32) (pw : Nat → Int32) (ph : Nat → Int32) (n : Nat) (kd : Nat) (rk : Nat) (ps : Int32) (L : Nat → Nat) (tN : Nat → Nat) (I : Nat → Bool) (r0 : Nat) (hK : MDK n kd L ln pl tN td) (hZ : ZI n zi I) (hr : r0 < 2 ^ 31) : CTv E yX11_pieces (wq yX11_pieces cX11_pieces 4 none) (rmk 3 75) [.ref (A 0), .int (nI r0)] [ob (A 0) 11 [.int (nI n), .int (nI kd), .ref (A 1), .ref (A 2), .ref (A 3), .ref (A 4), .int (nI rk), .ref (A 5), .ref (A 6), .ref (A 7), .ref (A 8), .ref (A 9), .ref (A 10), .ref (A 11), .int ps, .ref (A 12), .ref (A 13)], ia E (A 1) 60 ln, ia E (A 2) 480 pl, ia E (A 3) 3600 td, za E (A 4) 60 zi, ia E (A 5) 60 rf, ia E (A 6) 60 rg, ia E (A 7) 81 co, ia E (A 8) 3 bs, za E (A 9) 60 zt, ia E (A 10) 3600 al, ia E (A 11) 60 pp, ia E (A 12) 60 pw, ia E (A 13) 60 ph] (fun (u : (Nat → Int32) × (Nat → Int32)) => ∃ lab, LBa n u.2 lab ∧ LAB (dsN kd L pl tN) r0 I lab) (fun (u : (Nat → Int32) × (Nat → Int32)) => [ob (A 0) 11 [.int (nI n), .int (nI kd), .ref (A 1), .ref (A 2), .ref (A 3), .ref (A 4), .int (nI rk), .ref (A 5), .ref (A 6), .ref (A 7), .ref (A 8), .ref (A 9), .ref (A 10), .ref (A 11), .int ps, .ref (A 12), .ref (A 13)], ia E (A 1) 60 ln, ia E (A 2) 480 pl, ia E (A 3) 3600 td, za E (A 4) 60 zi, ia E (A 5) 60 rf, ia E (A 6) 60 rg, ia E (A 7) 81 u.1, ia E (A 8) 3 bs, za E (A 9) 60 zt, ia E (A 10) 3600 al, ia E (A 11) 60 u.2, ia E (A 12) 60 pw, ia E (A 13) 60 ph]) := by
  refine CTv.of (by decide) (Nat.le_of_ble_eq_true rfl) (fun X F R => ?_)
  refine g_lv [0, 1] [(0, .ref (A 0)), (1, .int (nI r0))] rfl ?_
  have hn60 := hK.1
  have hI60 : ∀ t, I t = true → t < 60 := fun t ht => Nat.lt_of_lt_of_le (hZ.2 t ht) hn60
  refine g_aload_n F 0 rfl dX11_pieces_0 ?_
  refine g_cVv F (wr := []) [] (c_X11_alonePieces E A ln pl td zi rf rg co bs zt al pp pw ph n kd rk ps L tN I (hK) (hZ)) (gi_V tw_ml_X11_126 tw_im_X11_alonePieces tw_se_X11_alonePieces tw_in_X11 tw_co_X11_alonePieces) 0 rfl (by decide) ⟨rfl, rfl, by decide, by decide, Nat.zero_le _, Nat.zero_le _⟩ 11 0 rfl rfl [0, 1, 2, 3, 4, 5, 6, 7, 8, 9, 10, 11, 12, 13] [] [0, 1, 2, 3, 4, 5, 6, 7, 8, 9, 10, 11, 12, 13] (fun u => [ob (A 0) 11 [.int (nI n), .int (nI kd), .ref (A 1), .ref (A 2), .ref (A 3), .ref (A 4), .int (nI rk), .ref (A 5), .ref (A 6), .ref (A 7), .ref (A 8), .ref (A 9), .ref (A 10), .ref (A 11), .int ps, .ref (A 12), .ref (A 13)], ia E (A 1) 60 ln, ia E (A 2) 480 pl, ia E (A 3) 3600 td, za E (A 4) 60 zi, ia E (A 5) 60 rf, ia E (A 6) 60 rg, ia E (A 7) 81 co, ia E (A 8) 3 bs, za E (A 9) 60 zt, ia E (A 10) 3600 al, ia E (A 11) 60 u, ia E (A 12) 60 pw, ia E (A 13) 60 ph]) rfl rfl (by decide) (fun _ => rfl) rfl (Nat.le_of_ble_eq_true rfl) dX11_pieces_1 (fun u hu_1 => ?_)
  revert hu_1; revert u; intro pp_0 hu_1
  refine g_iconst F (nI 0) (by decide) dX11_pieces_4 ?_
  refine g_istore_n F 2 [(0, .ref (A 0)), (1, .int (nI r0)), (2, .int (nI 0))] [1, 2, 0] dX11_pieces_5 rfl (by decide) rfl ?_
  have lp_6 : ∀ (n_6 : Nat) (a0 : Nat) (g : Nat → Int32) (p1 : Nat → Int32) (lab : Nat → Nat), (a0 ≤ n) → (LBa n p1 lab) → (∀ x, I x = true → I (lab x) = true ∧ CN (dsN kd L pl tN) r0 I x (lab x) ∧ lab x ≤ x) → (∀ p q, DNE a0 0 p q → p < q → I p = true → I q = true → dsN kd L pl tN p q ≤ r0 → lab p = lab q) → n - a0 < n_6 → GW E X 0 0 [ob (A 0) 11 [.int (nI n), .int (nI kd), .ref (A 1), .ref (A 2), .ref (A 3), .ref (A 4), .int (nI rk), .ref (A 5), .ref (A 6), .ref (A 7), .ref (A 8), .ref (A 9), .ref (A 10), .ref (A 11), .int ps, .ref (A 12), .ref (A 13)], ia E (A 1) 60 ln, ia E (A 2) 480 pl, ia E (A 3) 3600 td, za E (A 4) 60 zi, ia E (A 5) 60 rf, ia E (A 6) 60 rg, ia E (A 7) 81 g, ia E (A 8) 3 bs, za E (A 9) 60 zt, ia E (A 10) 3600 al, ia E (A 11) 60 p1, ia E (A 12) 60 pw, ia E (A 13) 60 ph] [(0, .ref (A 0)), (1, .int (nI r0)), (2, .int (nI a0))] 6 [] := by
    intro n_6
    induction n_6 with
    | zero => intro a0 g p1 lab ha hl hv hp hm_6; exact absurd hm_6 (Nat.not_lt_zero _)
    | succ n_6 ih_6 =>
      intro a0 g p1 lab ha hl hv hp hm_6
      refine g_iload_n F 2 rfl dX11_pieces_6 ?_
      refine g_aload_n F 0 rfl dX11_pieces_7 ?_
      refine g_get F 11 0 0 inX11 rfl rfl (by decide) tw_fl_X11_50 rfl dX11_pieces_8 ?_
      refine n_icmp_ge F 87 dX11_pieces_11 (by decide) (by omega) (by omega) (fun c_11 => ?_) (fun c_11 => ?_)
      · exact R ((g, p1)) _ _ dX11_pieces_87 (by (try dsimp only); exact (⟨lab, hl, fun x1 y1 hx hy hxy => by
            have q1 := hZ.2 x1 hx
            have q2 := hZ.2 y1 hy
            rcases Nat.lt_trichotomy x1 y1 with z | z | z
            · exact hp x1 y1 (Or.inl (by omega)) z hx hy hxy
            · rw [z]
            · exact (hp y1 x1 (Or.inl (by omega)) z hy hx (by rw [ds_sym hK.2.2.2.2.2 (by omega) (by omega)]; exact hxy)).symm, hv⟩))
      · refine g_iload_n F 2 rfl dX11_pieces_14 ?_
        refine g_iconst F (nI 1) (by decide) dX11_pieces_15 ?_
        refine n_add F dX11_pieces_16 ?_
        refine g_istore_n F 3 [(0, .ref (A 0)), (1, .int (nI r0)), (2, .int (nI a0)), (3, .int (nI (a0 + 1)))] [1, 2, 3, 0] dX11_pieces_17 rfl (by decide) rfl ?_
        have lp_18 : ∀ (n_18 : Nat) (b0 : Nat) (g2 : Nat → Int32) (p2 : Nat → Int32) (lab2 : Nat → Nat), (a0 < b0 ∧ b0 ≤ n) → (LBa n p2 lab2) → (∀ x, I x = true → I (lab2 x) = true ∧ CN (dsN kd L pl tN) r0 I x (lab2 x) ∧ lab2 x ≤ x) → (∀ p q, DNE a0 b0 p q → p < q → I p = true → I q = true → dsN kd L pl tN p q ≤ r0 → lab2 p = lab2 q) → n - b0 < n_18 → GW E X 0 0 [ob (A 0) 11 [.int (nI n), .int (nI kd), .ref (A 1), .ref (A 2), .ref (A 3), .ref (A 4), .int (nI rk), .ref (A 5), .ref (A 6), .ref (A 7), .ref (A 8), .ref (A 9), .ref (A 10), .ref (A 11), .int ps, .ref (A 12), .ref (A 13)], ia E (A 1) 60 ln, ia E (A 2) 480 pl, ia E (A 3) 3600 td, za E (A 4) 60 zi, ia E (A 5) 60 rf, ia E (A 6) 60 rg, ia E (A 7) 81 g2, ia E (A 8) 3 bs, za E (A 9) 60 zt, ia E (A 10) 3600 al, ia E (A 11) 60 p2, ia E (A 12) 60 pw, ia E (A 13) 60 ph] [(0, .ref (A 0)), (1, .int (nI r0)), (2, .int (nI a0)), (3, .int (nI b0))] 18 [] := by
          intro n_18
          induction n_18 with
          | zero => intro b0 g2 p2 lab2 hb hl2 hv2 hp2 hm_18; exact absurd hm_18 (Nat.not_lt_zero _)
          | succ n_18 ih_18 =>
            intro b0 g2 p2 lab2 hb hl2 hv2 hp2 hm_18
            refine g_iload_n F 3 rfl dX11_pieces_18 ?_
            refine g_aload_n F 0 rfl dX11_pieces_19 ?_
            refine g_get F 11 0 0 inX11 rfl rfl (by decide) tw_fl_X11_50 rfl dX11_pieces_20 ?_
            refine n_icmp_ge F 81 dX11_pieces_23 (by decide) (by omega) (by omega) (fun c_23 => ?_) (fun c_23 => ?_)
            · refine g_iinc F (nI (a0 + 1)) 2 2 [(0, .ref (A 0)), (1, .int (nI r0)), (2, .int (nI (a0 + 1))), (3, .int (nI b0))] [1, 2, 0, 3] dX11_pieces_81 rfl (n_inc a0) (by decide) rfl ?_
              refine g_goto F 6 dX11_pieces_84 (by decide) ?_
              refine g_lv [0, 1, 2] [(0, .ref (A 0)), (1, .int (nI r0)), (2, .int (nI (a0 + 1)))] rfl ?_
              exact ih_6 (a0 + 1) g2 p2 lab2 (by omega) (hl2) (hv2) (fun p q z h1 h2 h3 h4 => hp2 p q (by have := hZ.2 q h3; unfold DNE at z ⊢; omega) h1 h2 h3 h4) (by omega)
            · refine g_aload_n F 0 rfl dX11_pieces_26 ?_
              refine g_get F 11 0 5 inX11 rfl rfl (by decide) tw_fl_X11_19 rfl dX11_pieces_27 ?_
              refine g_iload_n F 2 rfl dX11_pieces_30 ?_
              refine g_zald F 4 rfl (by omega) (by decide) dX11_pieces_31 ?_
              refine g_top (bI (I a0)) (hZ.1 a0 (by omega)) ?_
              refine b_if_eq F 75 dX11_pieces_32 (by decide) (fun c_32 => ?_) (fun c_32 => ?_)
              · refine g_iinc F (nI (b0 + 1)) 3 3 [(0, .ref (A 0)), (1, .int (nI r0)), (2, .int (nI a0)), (3, .int (nI (b0 + 1)))] [1, 2, 3, 0] dX11_pieces_75 rfl (n_inc b0) (by decide) rfl ?_
                refine g_goto F 18 dX11_pieces_78 (by decide) ?_
                exact ih_18 (b0 + 1) g2 p2 lab2 (by omega) (hl2) (hv2) (fun p q z h1 h2 h3 h4 => by
                    by_cases c : p = a0 ∧ q = b0
                    · rw [c.1] at h2 h4 ⊢
                      rw [c.2] at h3 h4 ⊢
                      rw [c_32] at h2; cases h2
                    · exact hp2 p q (by unfold DNE at z ⊢; omega) h1 h2 h3 h4) (by omega)
              · refine g_aload_n F 0 rfl dX11_pieces_35 ?_
                refine g_get F 11 0 5 inX11 rfl rfl (by decide) tw_fl_X11_19 rfl dX11_pieces_36 ?_
                refine g_iload_n F 3 rfl dX11_pieces_39 ?_
                refine g_zald F 4 rfl (by omega) (by decide) dX11_pieces_40 ?_
                refine g_top (bI (I b0)) (hZ.1 b0 (by omega)) ?_
                refine b_if_eq F 75 dX11_pieces_41 (by decide) (fun c_41 => ?_) (fun c_41 => ?_)
                · refine g_iinc F (nI (b0 + 1)) 3 3 [(0, .ref (A 0)), (1, .int (nI r0)), (2, .int (nI a0)), (3, .int (nI (b0 + 1)))] [1, 2, 3, 0] dX11_pieces_75 rfl (n_inc b0) (by decide) rfl ?_
                  refine g_goto F 18 dX11_pieces_78 (by decide) ?_
                  exact ih_18 (b0 + 1) g2 p2 lab2 (by omega) (hl2) (hv2) (fun p q z h1 h2 h3 h4 => by
                      by_cases c : p = a0 ∧ q = b0
                      · rw [c.1] at h2 h4 ⊢
                        rw [c.2] at h3 h4 ⊢
                        rw [c_41] at h3; cases h3
                      · exact hp2 p q (by unfold DNE at z ⊢; omega) h1 h2 h3 h4) (by omega)
                · refine g_aload_n F 0 rfl dX11_pieces_44 ?_
                  refine g_get F 11 0 13 inX11 rfl rfl (by decide) tw_fl_X11_41 rfl dX11_pieces_45 ?_
                  refine g_iload_n F 2 rfl dX11_pieces_48 ?_
                  refine g_iald F 11 rfl (by omega) (by decide) dX11_pieces_49 ?_
                  refine g_top (nI (lab2 a0)) ((hl2 a0 (by omega)).1) ?_
                  refine g_aload_n F 0 rfl dX11_pieces_50 ?_
                  refine g_get F 11 0 13 inX11 rfl rfl (by decide) tw_fl_X11_41 rfl dX11_pieces_51 ?_
                  refine g_iload_n F 3 rfl dX11_pieces_54 ?_
                  refine g_iald F 11 rfl (by omega) (by decide) dX11_pieces_55 ?_
                  refine g_top (nI (lab2 b0)) ((hl2 b0 (by omega)).1) ?_
                  refine n_icmp_eq F 75 dX11_pieces_56 (by decide) (by have := (hl2 a0 (by omega)).2; omega) (by have := (hl2 b0 (by omega)).2; omega) (fun c_56 => ?_) (fun c_56 => ?_)
                  · refine g_iinc F (nI (b0 + 1)) 3 3 [(0, .ref (A 0)), (1, .int (nI r0)), (2, .int (nI a0)), (3, .int (nI (b0 + 1)))] [1, 2, 3, 0] dX11_pieces_75 rfl (n_inc b0) (by decide) rfl ?_
                    refine g_goto F 18 dX11_pieces_78 (by decide) ?_
                    exact ih_18 (b0 + 1) g2 p2 lab2 (by omega) (hl2) (hv2) (fun p q z h1 h2 h3 h4 => by
                        by_cases c : p = a0 ∧ q = b0
                        · rw [c.1] at h2 h4 ⊢
                          rw [c.2] at h3 h4 ⊢
                          exact c_56
                        · exact hp2 p q (by unfold DNE at z ⊢; omega) h1 h2 h3 h4) (by omega)
                  · refine g_aload_n F 0 rfl dX11_pieces_59 ?_
                    refine g_iload_n F 2 rfl dX11_pieces_60 ?_
                    refine g_iload_n F 3 rfl dX11_pieces_61 ?_
                    refine g_cVi F (wr := []) [] (c_X11_far E A ln pl td zi rf rg g2 bs zt al p2 pw ph n kd rk ps L tN I a0 b0 (hK) (hZ) (by omega) (by omega)) (gi_V tw_ml_X11_86 tw_im_X11_far tw_se_X11_far tw_in_X11 tw_co_X11_far) 2 rfl (by decide) ⟨rfl, rfl, by decide, by decide, Nat.zero_le _, Nat.zero_le _⟩ 11 0 rfl rfl [0, 1, 2, 3, 4, 5, 6, 7, 8, 9, 10, 11, 12, 13] [] [0, 1, 2, 3, 4, 5, 6, 7, 8, 9, 10, 11, 12, 13] (fun u => [ob (A 0) 11 [.int (nI n), .int (nI kd), .ref (A 1), .ref (A 2), .ref (A 3), .ref (A 4), .int (nI rk), .ref (A 5), .ref (A 6), .ref (A 7), .ref (A 8), .ref (A 9), .ref (A 10), .ref (A 11), .int ps, .ref (A 12), .ref (A 13)], ia E (A 1) 60 ln, ia E (A 2) 480 pl, ia E (A 3) 3600 td, za E (A 4) 60 zi, ia E (A 5) 60 rf, ia E (A 6) 60 rg, ia E (A 7) 81 u, ia E (A 8) 3 bs, za E (A 9) 60 zt, ia E (A 10) 3600 al, ia E (A 11) 60 p2, ia E (A 12) 60 pw, ia E (A 13) 60 ph]) rfl rfl (by decide) (fun _ => rfl) rfl (Nat.le_of_ble_eq_true rfl) dX11_pieces_62 (fun r_62 u hu_62 => ?_)
                    revert hu_62; revert u; intro co_62 hu_62
                    subst hu_62
                    refine g_iload_n F 1 rfl dX11_pieces_65 ?_
                    refine n_icmp_gt F 75 dX11_pieces_66 (by decide) (by have := ds_le (kd := kd) (a := a0) (b := b0) hK.2.2.1 hK.2.2.2.1 hK.2.2.2.2.1 (by omega) (by omega); omega) (by omega) (fun c_66 => ?_) (fun c_66 => ?_)
                    · refine g_iinc F (nI (b0 + 1)) 3 3 [(0, .ref (A 0)), (1, .int (nI r0)), (2, .int (nI a0)), (3, .int (nI (b0 + 1)))] [1, 2, 3, 0] dX11_pieces_75 rfl (n_inc b0) (by decide) rfl ?_
                      refine g_goto F 18 dX11_pieces_78 (by decide) ?_
                      exact ih_18 (b0 + 1) co_62 p2 lab2 (by omega) (hl2) (hv2) (fun p q z h1 h2 h3 h4 => by
                          by_cases c : p = a0 ∧ q = b0
                          · rw [c.1] at h2 h4 ⊢
                            rw [c.2] at h3 h4 ⊢
                            omega
                          · exact hp2 p q (by unfold DNE at z ⊢; omega) h1 h2 h3 h4) (by omega)
                    · refine g_aload_n F 0 rfl dX11_pieces_69 ?_
                      refine g_iload_n F 2 rfl dX11_pieces_70 ?_
                      refine g_iload_n F 3 rfl dX11_pieces_71 ?_
                      refine g_cVv F (wr := []) [] (c_X11_joins E A ln pl td zi rf rg co_62 bs zt al p2 pw ph n kd rk ps L tN I a0 b0 lab2 (hK) (hZ) (by omega) (by omega) (hl2)) (gi_V tw_ml_X11_132 tw_im_X11_joins tw_se_X11_joins tw_in_X11 tw_co_X11_joins) 2 rfl (by decide) ⟨rfl, rfl, by decide, by decide, Nat.zero_le _, Nat.zero_le _⟩ 11 0 rfl rfl [0, 1, 2, 3, 4, 5, 6, 7, 8, 9, 10, 11, 12, 13] [] [0, 1, 2, 3, 4, 5, 6, 7, 8, 9, 10, 11, 12, 13] (fun u => [ob (A 0) 11 [.int (nI n), .int (nI kd), .ref (A 1), .ref (A 2), .ref (A 3), .ref (A 4), .int (nI rk), .ref (A 5), .ref (A 6), .ref (A 7), .ref (A 8), .ref (A 9), .ref (A 10), .ref (A 11), .int ps, .ref (A 12), .ref (A 13)], ia E (A 1) 60 ln, ia E (A 2) 480 pl, ia E (A 3) 3600 td, za E (A 4) 60 zi, ia E (A 5) 60 rf, ia E (A 6) 60 rg, ia E (A 7) 81 co_62, ia E (A 8) 3 bs, za E (A 9) 60 zt, ia E (A 10) 3600 al, ia E (A 11) 60 u, ia E (A 12) 60 pw, ia E (A 13) 60 ph]) rfl rfl (by decide) (fun _ => rfl) rfl (Nat.le_of_ble_eq_true rfl) dX11_pieces_72 (fun u hu_72 => ?_)
                      revert hu_72; revert u; intro pp_72 hu_72
                      refine g_iinc F (nI (b0 + 1)) 3 3 [(0, .ref (A 0)), (1, .int (nI r0)), (2, .int (nI a0)), (3, .int (nI (b0 + 1)))] [1, 2, 3, 0] dX11_pieces_75 rfl (n_inc b0) (by decide) rfl ?_
                      refine g_goto F 18 dX11_pieces_78 (by decide) ?_
                      exact ih_18 (b0 + 1) co_62 pp_72 (jn lab2 (lab2 a0) (lab2 b0)) (by omega) (hu_72) (jn_ok hv2 c_32 c_41 c_66) (fun p q z h1 h2 h3 h4 => by
                          by_cases c : p = a0 ∧ q = b0
                          · rw [c.1, c.2]; exact jn_both lab2 _ _
                          · exact jn_eq (hp2 p q (by unfold DNE at z ⊢; omega) h1 h2 h3 h4)) (by omega)
        exact lp_18 _ (a0 + 1) g p1 lab (by omega) (hl) (hv) (fun p q z h1 h2 h3 h4 => hp p q (by unfold DNE at z ⊢; omega) h1 h2 h3 h4) (Nat.lt_succ_self _)
  exact lp_6 _ 0 co pp_0 (fun t => t) (by omega) (fun t ht => hu_1 t (by omega)) (fun x hx => ⟨hx, CN.rf x, Nat.le_refl x⟩) (fun p q z => by unfold DNE at z; omega) (Nat.lt_succ_self _)

set_option maxHeartbeats 4000000 in
set_option maxRecDepth 100000 in
theorem c_X11_clusters (E : Ev) (A : Nat → Nat) (ln : Nat → Int32) (pl : Nat → Int32) (td : Nat → Int32) (zi : Nat → Int32) (rf : Nat → Int32) (rg : Nat → Int32) (co : Nat → Int32) (bs : Nat → Int32) (zt : Nat → Int32) (al : Nat → Int32) (pp : Nat → Int32) (pw : Nat → Int32) (ph : Nat → Int32) (n : Nat) (kd : Nat) (rk : Nat) (ps : Int32) (L : Nat → Nat) (tN : Nat → Nat) (I : Nat → Bool) (rt : Nat → Nat) (ra : Nat → Nat) (x : Int32) (hK : MDK n kd L ln pl tN td) (hZ : ZI n zi I) (hR : NBR rk rf rg rt ra) : CTi E yX11_clusters (wq yX11_clusters cX11_clusters 4 (some .int)) (rmk 4 98) [.ref (A 0), .int x] [ob (A 0) 11 [.int (nI n), .int (nI kd), .ref (A 1), .ref (A 2), .ref (A 3), .ref (A 4), .int (nI rk), .ref (A 5), .ref (A 6), .ref (A 7), .ref (A 8), .ref (A 9), .ref (A 10), .ref (A 11), .int ps, .ref (A 12), .ref (A 13)], ia E (A 1) 60 ln, ia E (A 2) 480 pl, ia E (A 3) 3600 td, za E (A 4) 60 zi, ia E (A 5) 60 rf, ia E (A 6) 60 rg, ia E (A 7) 81 co, ia E (A 8) 3 bs, za E (A 9) 60 zt, ia E (A 10) 3600 al, ia E (A 11) 60 pp, ia E (A 12) 60 pw, ia E (A 13) 60 ph] (fun (r : Int32) (u : (Nat → Int32) × (Nat → Int32) × (Nat → Int32)) => (∃ r0, r0 < 2 ^ 31 ∧ x = nI r0 ∧ LWK kd tN n ∧ ∃ lab, LAB (dsN kd L pl tN) r0 I lab ∧ r = nI (sumI (fun t => if lab t = t then 1 else 0) I n)) ∨ ((∀ r0, r0 < 2 ^ 31 → x = nI r0 → ¬ LWK kd tN n) ∧ r = -1)) (fun (u : (Nat → Int32) × (Nat → Int32) × (Nat → Int32)) => [ob (A 0) 11 [.int (nI n), .int (nI kd), .ref (A 1), .ref (A 2), .ref (A 3), .ref (A 4), .int (nI rk), .ref (A 5), .ref (A 6), .ref (A 7), .ref (A 8), .ref (A 9), .ref (A 10), .ref (A 11), .int ps, .ref (A 12), .ref (A 13)], ia E (A 1) 60 ln, ia E (A 2) 480 pl, ia E (A 3) 3600 td, za E (A 4) 60 zi, ia E (A 5) 60 rf, ia E (A 6) 60 rg, ia E (A 7) 81 u.1, ia E (A 8) 3 u.2.1, za E (A 9) 60 zt, ia E (A 10) 3600 al, ia E (A 11) 60 u.2.2, ia E (A 12) 60 pw, ia E (A 13) 60 ph]) := by
  refine CTi.of (by decide) (Nat.le_of_ble_eq_true rfl) (fun X F R => ?_)
  refine g_lv [0, 1] [(0, .ref (A 0)), (1, .int x)] rfl ?_
  have hn60 := hK.1
  refine g_iload_n F 1 rfl dX11_clusters_0 ?_
  refine g_if_lt F 11 dX11_clusters_1 (by decide) (fun c_1 => ?_) (fun c_1 => ?_)
  · refine g_iconst F (-1) (by decide) dX11_clusters_11 ?_
    exact R _ ((co, bs, pp)) _ _ dX11_clusters_12 (by (try dsimp only); exact (Or.inr ⟨fun r0 h1 h2 => absurd c_1 (by rw [h2]; exact nI_pos h1), rfl⟩))
  · refine g_aload_n F 0 rfl dX11_clusters_4 ?_
    refine g_cVi F (wr := []) [] (c_X11_holds E A ln pl td zi rf rg co bs zt al pp pw ph n kd rk ps L tN I (hK) (hZ)) (gi_V tw_ml_X11_89 tw_im_X11_holds tw_se_X11_holds tw_in_X11 tw_co_X11_holds) 0 rfl (by decide) ⟨rfl, rfl, by decide, by decide, Nat.zero_le _, Nat.zero_le _⟩ 11 0 rfl rfl [0, 1, 2, 3, 4, 5, 6, 7, 8, 9, 10, 11, 12, 13] [] [0, 1, 2, 3, 4, 5, 6, 7, 8, 9, 10, 11, 12, 13] (fun u => [ob (A 0) 11 [.int (nI n), .int (nI kd), .ref (A 1), .ref (A 2), .ref (A 3), .ref (A 4), .int (nI rk), .ref (A 5), .ref (A 6), .ref (A 7), .ref (A 8), .ref (A 9), .ref (A 10), .ref (A 11), .int ps, .ref (A 12), .ref (A 13)], ia E (A 1) 60 ln, ia E (A 2) 480 pl, ia E (A 3) 3600 td, za E (A 4) 60 zi, ia E (A 5) 60 rf, ia E (A 6) 60 rg, ia E (A 7) 81 co, ia E (A 8) 3 u, za E (A 9) 60 zt, ia E (A 10) 3600 al, ia E (A 11) 60 pp, ia E (A 12) 60 pw, ia E (A 13) 60 ph]) rfl rfl (by decide) (fun _ => rfl) rfl (Nat.le_of_ble_eq_true rfl) dX11_clusters_5 (fun r_5 u hu_5 => ?_)
    revert hu_5; revert u; intro bs2_5 hu_5
    rcases hu_5 with ⟨rfl, hlw⟩ | ⟨rfl, hk5, htb⟩
    · refine g_if_ne F 13 dX11_clusters_8 (by decide) (fun _ => ?_) (fun h => absurd h (by decide))
      obtain ⟨r9, hr9, rfl⟩ := nI_of c_1
      refine g_aload_n F 0 rfl dX11_clusters_13 ?_
      refine g_iload_n F 1 rfl dX11_clusters_14 ?_
      refine g_cVv F (wr := []) [] (c_X11_pieces E A ln pl td zi rf rg co bs2_5 zt al pp pw ph n kd rk ps L tN I r9 (hK) (hZ) (hr9)) (gi_V tw_ml_X11_140 tw_im_X11_pieces tw_se_X11_pieces tw_in_X11 tw_co_X11_pieces) 1 rfl (by decide) ⟨rfl, rfl, by decide, by decide, Nat.zero_le _, Nat.zero_le _⟩ 11 0 rfl rfl [0, 1, 2, 3, 4, 5, 6, 7, 8, 9, 10, 11, 12, 13] [] [0, 1, 2, 3, 4, 5, 6, 7, 8, 9, 10, 11, 12, 13] (fun u => [ob (A 0) 11 [.int (nI n), .int (nI kd), .ref (A 1), .ref (A 2), .ref (A 3), .ref (A 4), .int (nI rk), .ref (A 5), .ref (A 6), .ref (A 7), .ref (A 8), .ref (A 9), .ref (A 10), .ref (A 11), .int ps, .ref (A 12), .ref (A 13)], ia E (A 1) 60 ln, ia E (A 2) 480 pl, ia E (A 3) 3600 td, za E (A 4) 60 zi, ia E (A 5) 60 rf, ia E (A 6) 60 rg, ia E (A 7) 81 u.1, ia E (A 8) 3 bs2_5, za E (A 9) 60 zt, ia E (A 10) 3600 al, ia E (A 11) 60 u.2, ia E (A 12) 60 pw, ia E (A 13) 60 ph]) rfl rfl (by decide) (fun _ => rfl) rfl (Nat.le_of_ble_eq_true rfl) dX11_clusters_15 (fun u hu_15 => ?_)
      obtain ⟨co_t, pp_t⟩ := u
      refine g_ws [ob (A 0) 11 [.int (nI n), .int (nI kd), .ref (A 1), .ref (A 2), .ref (A 3), .ref (A 4), .int (nI rk), .ref (A 5), .ref (A 6), .ref (A 7), .ref (A 8), .ref (A 9), .ref (A 10), .ref (A 11), .int ps, .ref (A 12), .ref (A 13)], ia E (A 1) 60 ln, ia E (A 2) 480 pl, ia E (A 3) 3600 td, za E (A 4) 60 zi, ia E (A 5) 60 rf, ia E (A 6) 60 rg, ia E (A 7) 81 co_t, ia E (A 8) 3 bs2_5, za E (A 9) 60 zt, ia E (A 10) 3600 al, ia E (A 11) 60 pp_t, ia E (A 12) 60 pw, ia E (A 13) 60 ph] rfl ?_
      dsimp only at hu_15
      obtain ⟨lab, hlb, hlab⟩ := hu_15
      refine g_iconst F (nI 0) (by decide) dX11_clusters_18 ?_
      refine g_istore_n F 2 [(0, .ref (A 0)), (1, .int (nI r9)), (2, .int (nI 0))] [1, 2, 0] dX11_clusters_19 rfl (by decide) rfl ?_
      refine g_iconst F (nI 0) (by decide) dX11_clusters_20 ?_
      refine g_istore_n F 3 [(0, .ref (A 0)), (1, .int (nI r9)), (2, .int (nI 0)), (3, .int (nI 0))] [1, 2, 3, 0] dX11_clusters_21 rfl (by decide) rfl ?_
      have lp_22 : ∀ (n_22 : Nat) (i : Nat), (i ≤ n) → n - i < n_22 → GW E X 0 0 [ob (A 0) 11 [.int (nI n), .int (nI kd), .ref (A 1), .ref (A 2), .ref (A 3), .ref (A 4), .int (nI rk), .ref (A 5), .ref (A 6), .ref (A 7), .ref (A 8), .ref (A 9), .ref (A 10), .ref (A 11), .int ps, .ref (A 12), .ref (A 13)], ia E (A 1) 60 ln, ia E (A 2) 480 pl, ia E (A 3) 3600 td, za E (A 4) 60 zi, ia E (A 5) 60 rf, ia E (A 6) 60 rg, ia E (A 7) 81 co_t, ia E (A 8) 3 bs2_5, za E (A 9) 60 zt, ia E (A 10) 3600 al, ia E (A 11) 60 pp_t, ia E (A 12) 60 pw, ia E (A 13) 60 ph] [(0, .ref (A 0)), (1, .int (nI r9)), (2, .int (nI (sumI (fun t => if lab t = t then 1 else 0) I i))), (3, .int (nI i))] 22 [] := by
        intro n_22
        induction n_22 with
        | zero => intro i hi hm_22; exact absurd hm_22 (Nat.not_lt_zero _)
        | succ n_22 ih_22 =>
          intro i hi hm_22
          refine g_iload_n F 3 rfl dX11_clusters_22 ?_
          refine g_aload_n F 0 rfl dX11_clusters_23 ?_
          refine g_get F 11 0 0 inX11 rfl rfl (by decide) tw_fl_X11_50 rfl dX11_clusters_24 ?_
          refine n_icmp_ge F 63 dX11_clusters_27 (by decide) (by omega) (by omega) (fun c_27 => ?_) (fun c_27 => ?_)
          · refine g_iload_n F 2 rfl dX11_clusters_63 ?_
            exact R _ ((co_t, bs2_5, pp_t)) _ _ dX11_clusters_64 (by (try dsimp only); exact (Or.inl ⟨r9, hr9, rfl, hlw, lab, hlab, by rw [show i = n by omega]⟩))
          · refine g_iload_n F 2 rfl dX11_clusters_30 ?_
            refine g_aload_n F 0 rfl dX11_clusters_31 ?_
            refine g_get F 11 0 5 inX11 rfl rfl (by decide) tw_fl_X11_19 rfl dX11_clusters_32 ?_
            refine g_iload_n F 3 rfl dX11_clusters_35 ?_
            refine g_zald F 4 rfl (by omega) (by decide) dX11_clusters_36 ?_
            refine g_top (bI (I i)) (hZ.1 i (by omega)) ?_
            refine b_if_eq F 54 dX11_clusters_37 (by decide) (fun c_37 => ?_) (fun c_37 => ?_)
            · refine g_iconst F (nI 0) (by decide) dX11_clusters_54 ?_
              refine n_add F dX11_clusters_55 ?_
              refine g_top (nI (sumI (fun t => if lab t = t then 1 else 0) I (i + 1))) (congrArg nI (by first | exact sumI_0 c_37 | (have e9 : (fun t => if lab t = t then 1 else 0) i = 0 := if_neg c_47; exact sumI_z e9) | (have e8 := sumI_1 (g := fun t => if lab t = t then 1 else 0) c_37; rw [if_pos c_47] at e8; exact e8))) ?_
              refine g_istore_n F 2 [(0, .ref (A 0)), (1, .int (nI r9)), (2, .int (nI (sumI (fun t => if lab t = t then 1 else 0) I (i + 1)))), (3, .int (nI i))] [1, 2, 0, 3] dX11_clusters_56 rfl (by decide) rfl ?_
              refine g_iinc F (nI (i + 1)) 3 3 [(0, .ref (A 0)), (1, .int (nI r9)), (2, .int (nI (sumI (fun t => if lab t = t then 1 else 0) I (i + 1)))), (3, .int (nI (i + 1)))] [1, 2, 3, 0] dX11_clusters_57 rfl (n_inc i) (by decide) rfl ?_
              refine g_goto F 22 dX11_clusters_60 (by decide) ?_
              exact ih_22 (i + 1) (by omega) (by omega)
            · refine g_aload_n F 0 rfl dX11_clusters_40 ?_
              refine g_get F 11 0 13 inX11 rfl rfl (by decide) tw_fl_X11_41 rfl dX11_clusters_41 ?_
              refine g_iload_n F 3 rfl dX11_clusters_44 ?_
              refine g_iald F 11 rfl (by omega) (by decide) dX11_clusters_45 ?_
              refine g_top (nI (lab i)) ((hlb i (by omega)).1) ?_
              refine g_iload_n F 3 rfl dX11_clusters_46 ?_
              refine n_icmp_ne F 54 dX11_clusters_47 (by decide) (by have := (hlb i (by omega)).2; omega) (by omega) (fun c_47 => ?_) (fun c_47 => ?_)
              · refine g_iconst F (nI 0) (by decide) dX11_clusters_54 ?_
                refine n_add F dX11_clusters_55 ?_
                refine g_top (nI (sumI (fun t => if lab t = t then 1 else 0) I (i + 1))) (congrArg nI (by first | exact sumI_0 c_37 | (have e9 : (fun t => if lab t = t then 1 else 0) i = 0 := if_neg c_47; exact sumI_z e9) | (have e8 := sumI_1 (g := fun t => if lab t = t then 1 else 0) c_37; rw [if_pos c_47] at e8; exact e8))) ?_
                refine g_istore_n F 2 [(0, .ref (A 0)), (1, .int (nI r9)), (2, .int (nI (sumI (fun t => if lab t = t then 1 else 0) I (i + 1)))), (3, .int (nI i))] [1, 2, 0, 3] dX11_clusters_56 rfl (by decide) rfl ?_
                refine g_iinc F (nI (i + 1)) 3 3 [(0, .ref (A 0)), (1, .int (nI r9)), (2, .int (nI (sumI (fun t => if lab t = t then 1 else 0) I (i + 1)))), (3, .int (nI (i + 1)))] [1, 2, 3, 0] dX11_clusters_57 rfl (n_inc i) (by decide) rfl ?_
                refine g_goto F 22 dX11_clusters_60 (by decide) ?_
                exact ih_22 (i + 1) (by omega) (by omega)
              · refine g_iconst F (nI 1) (by decide) dX11_clusters_50 ?_
                refine g_goto F 55 dX11_clusters_51 (by decide) ?_
                refine n_add F dX11_clusters_55 ?_
                refine g_top (nI (sumI (fun t => if lab t = t then 1 else 0) I (i + 1))) (congrArg nI (by first | exact sumI_0 c_37 | (have e9 : (fun t => if lab t = t then 1 else 0) i = 0 := if_neg c_47; exact sumI_z e9) | (have e8 := sumI_1 (g := fun t => if lab t = t then 1 else 0) c_37; rw [if_pos c_47] at e8; exact e8))) ?_
                refine g_istore_n F 2 [(0, .ref (A 0)), (1, .int (nI r9)), (2, .int (nI (sumI (fun t => if lab t = t then 1 else 0) I (i + 1)))), (3, .int (nI i))] [1, 2, 0, 3] dX11_clusters_56 rfl (by decide) rfl ?_
                refine g_iinc F (nI (i + 1)) 3 3 [(0, .ref (A 0)), (1, .int (nI r9)), (2, .int (nI (sumI (fun t => if lab t = t then 1 else 0) I (i + 1)))), (3, .int (nI (i + 1)))] [1, 2, 3, 0] dX11_clusters_57 rfl (n_inc i) (by decide) rfl ?_
                refine g_goto F 22 dX11_clusters_60 (by decide) ?_
                exact ih_22 (i + 1) (by omega) (by omega)
      exact lp_22 _ 0 (by omega) (Nat.lt_succ_self _)
    · refine g_if_ne F 13 dX11_clusters_8 (by decide) (fun h => absurd (by decide) h) (fun _ => ?_)
      refine g_iconst F (-1) (by decide) dX11_clusters_11 ?_
      exact R _ ((co, bs2_5, pp)) _ _ dX11_clusters_12 (by (try dsimp only); exact (Or.inr ⟨fun _ _ _ => lwk_no hk5 htb, rfl⟩))

set_option maxHeartbeats 4000000 in
set_option maxRecDepth 100000 in
theorem c_X11_cluster (E : Ev) (A : Nat → Nat) (ln : Nat → Int32) (pl : Nat → Int32) (td : Nat → Int32) (zi : Nat → Int32) (rf : Nat → Int32) (rg : Nat → Int32) (co : Nat → Int32) (bs : Nat → Int32) (zt : Nat → Int32) (al : Nat → Int32) (pp : Nat → Int32) (pw : Nat → Int32) (ph : Nat → Int32) (n : Nat) (kd : Nat) (rk : Nat) (ps : Int32) (L : Nat → Nat) (tN : Nat → Nat) (I : Nat → Bool) (rt : Nat → Nat) (ra : Nat → Nat) (x : Int32) (y : Int32) (hK : MDK n kd L ln pl tN td) (hZ : ZI n zi I) (hR : NBR rk rf rg rt ra) : CTi E yX11_cluster (wq yX11_cluster cX11_cluster 3 (some .int)) (rmk 4 98) [.ref (A 0), .int x, .int y] [ob (A 0) 11 [.int (nI n), .int (nI kd), .ref (A 1), .ref (A 2), .ref (A 3), .ref (A 4), .int (nI rk), .ref (A 5), .ref (A 6), .ref (A 7), .ref (A 8), .ref (A 9), .ref (A 10), .ref (A 11), .int ps, .ref (A 12), .ref (A 13)], ia E (A 1) 60 ln, ia E (A 2) 480 pl, ia E (A 3) 3600 td, za E (A 4) 60 zi, ia E (A 5) 60 rf, ia E (A 6) 60 rg, ia E (A 7) 81 co, ia E (A 8) 3 bs, za E (A 9) 60 zt, ia E (A 10) 3600 al, ia E (A 11) 60 pp, ia E (A 12) 60 pw, ia E (A 13) 60 ph] (fun (r : Int32) (u : (Nat → Int32) × (Nat → Int32) × (Nat → Int32)) => (∃ t0 r0, t0 < n ∧ x = nI t0 ∧ I t0 = true ∧ r0 < 2 ^ 31 ∧ y = nI r0 ∧ LWK kd tN n ∧ ∃ lab, LAB (dsN kd L pl tN) r0 I lab ∧ r = nI (lab t0)) ∨ ((∀ t0 r0, t0 < n → x = nI t0 → I t0 = true → r0 < 2 ^ 31 → y = nI r0 → ¬ LWK kd tN n) ∧ r = -1)) (fun (u : (Nat → Int32) × (Nat → Int32) × (Nat → Int32)) => [ob (A 0) 11 [.int (nI n), .int (nI kd), .ref (A 1), .ref (A 2), .ref (A 3), .ref (A 4), .int (nI rk), .ref (A 5), .ref (A 6), .ref (A 7), .ref (A 8), .ref (A 9), .ref (A 10), .ref (A 11), .int ps, .ref (A 12), .ref (A 13)], ia E (A 1) 60 ln, ia E (A 2) 480 pl, ia E (A 3) 3600 td, za E (A 4) 60 zi, ia E (A 5) 60 rf, ia E (A 6) 60 rg, ia E (A 7) 81 u.1, ia E (A 8) 3 u.2.1, za E (A 9) 60 zt, ia E (A 10) 3600 al, ia E (A 11) 60 u.2.2, ia E (A 12) 60 pw, ia E (A 13) 60 ph]) := by
  refine CTi.of (by decide) (Nat.le_of_ble_eq_true rfl) (fun X F R => ?_)
  refine g_lv [0, 1, 2] [(0, .ref (A 0)), (1, .int x), (2, .int y)] rfl ?_
  have hn60 := hK.1
  refine g_aload_n F 0 rfl dX11_cluster_0 ?_
  refine g_iload_n F 1 rfl dX11_cluster_1 ?_
  refine g_cVi F (wr := []) [] (c_X11_isThing E A ln pl td zi rf rg co bs zt al pp pw ph n kd rk ps L tN I x (hK) (hZ)) (gi_V tw_ml_X11_58 tw_im_X11_isThing tw_se_X11_isThing tw_in_X11 tw_co_X11_isThing) 1 rfl (by decide) ⟨rfl, rfl, by decide, by decide, Nat.zero_le _, Nat.zero_le _⟩ 11 0 rfl rfl [0, 1, 2, 3, 4, 5, 6, 7, 8, 9, 10, 11, 12, 13] [] [0, 1, 2, 3, 4, 5, 6, 7, 8, 9, 10, 11, 12, 13] (fun u => [ob (A 0) 11 [.int (nI n), .int (nI kd), .ref (A 1), .ref (A 2), .ref (A 3), .ref (A 4), .int (nI rk), .ref (A 5), .ref (A 6), .ref (A 7), .ref (A 8), .ref (A 9), .ref (A 10), .ref (A 11), .int ps, .ref (A 12), .ref (A 13)], ia E (A 1) 60 ln, ia E (A 2) 480 pl, ia E (A 3) 3600 td, za E (A 4) 60 zi, ia E (A 5) 60 rf, ia E (A 6) 60 rg, ia E (A 7) 81 co, ia E (A 8) 3 bs, za E (A 9) 60 zt, ia E (A 10) 3600 al, ia E (A 11) 60 pp, ia E (A 12) 60 pw, ia E (A 13) 60 ph]) rfl rfl (by decide) (fun _ => rfl) rfl (Nat.le_of_ble_eq_true rfl) dX11_cluster_2 (fun r_2 u hu_2 => ?_)
  rcases hu_2 with ⟨rfl, t_2, ht_2, rfl⟩ | ⟨rfl, hno_2⟩
  · refine g_if_eq F 28 dX11_cluster_5 (by decide) (fun h => absurd h (by decide)) (fun _ => ?_)
    refine g_aload_n F 0 rfl dX11_cluster_8 ?_
    refine g_get F 11 0 5 inX11 rfl rfl (by decide) tw_fl_X11_19 rfl dX11_cluster_9 ?_
    refine g_iload_n F 1 rfl dX11_cluster_12 ?_
    refine g_zald F 4 rfl (by omega) (by decide) dX11_cluster_13 ?_
    refine g_top (bI (I t_2)) (hZ.1 t_2 (by omega)) ?_
    refine b_if_eq F 28 dX11_cluster_14 (by decide) (fun c_14 => ?_) (fun c_14 => ?_)
    · refine g_iconst F (-1) (by decide) dX11_cluster_28 ?_
      exact R _ ((co, bs, pp)) _ _ dX11_cluster_29 (by (try dsimp only); exact (Or.inr ⟨fun t0 r0 h1 h2 h3 h4 h5 => by
          rw [← (nI_eq (by omega) (by omega)).mp h2, c_14] at h3
          exact Bool.noConfusion h3, rfl⟩))
    · refine g_iload_n F 2 rfl dX11_cluster_17 ?_
      refine g_if_lt F 28 dX11_cluster_18 (by decide) (fun c_18 => ?_) (fun c_18 => ?_)
      · refine g_iconst F (-1) (by decide) dX11_cluster_28 ?_
        exact R _ ((co, bs, pp)) _ _ dX11_cluster_29 (by (try dsimp only); exact (Or.inr ⟨fun t0 r0 h1 h2 h3 h4 h5 => absurd c_18 (by rw [h5]; exact nI_pos h4), rfl⟩))
      · refine g_aload_n F 0 rfl dX11_cluster_21 ?_
        refine g_cVi F (wr := []) [] (c_X11_holds E A ln pl td zi rf rg co bs zt al pp pw ph n kd rk ps L tN I (hK) (hZ)) (gi_V tw_ml_X11_89 tw_im_X11_holds tw_se_X11_holds tw_in_X11 tw_co_X11_holds) 0 rfl (by decide) ⟨rfl, rfl, by decide, by decide, Nat.zero_le _, Nat.zero_le _⟩ 11 0 rfl rfl [0, 1, 2, 3, 4, 5, 6, 7, 8, 9, 10, 11, 12, 13] [] [0, 1, 2, 3, 4, 5, 6, 7, 8, 9, 10, 11, 12, 13] (fun u => [ob (A 0) 11 [.int (nI n), .int (nI kd), .ref (A 1), .ref (A 2), .ref (A 3), .ref (A 4), .int (nI rk), .ref (A 5), .ref (A 6), .ref (A 7), .ref (A 8), .ref (A 9), .ref (A 10), .ref (A 11), .int ps, .ref (A 12), .ref (A 13)], ia E (A 1) 60 ln, ia E (A 2) 480 pl, ia E (A 3) 3600 td, za E (A 4) 60 zi, ia E (A 5) 60 rf, ia E (A 6) 60 rg, ia E (A 7) 81 co, ia E (A 8) 3 u, za E (A 9) 60 zt, ia E (A 10) 3600 al, ia E (A 11) 60 pp, ia E (A 12) 60 pw, ia E (A 13) 60 ph]) rfl rfl (by decide) (fun _ => rfl) rfl (Nat.le_of_ble_eq_true rfl) dX11_cluster_22 (fun r_22 u hu_22 => ?_)
        revert hu_22; revert u; intro bs2_22 hu_22
        rcases hu_22 with ⟨rfl, hlw⟩ | ⟨rfl, hk5, htb⟩
        · refine g_if_ne F 30 dX11_cluster_25 (by decide) (fun _ => ?_) (fun h => absurd h (by decide))
          obtain ⟨r9, hr9, rfl⟩ := nI_of c_18
          refine g_aload_n F 0 rfl dX11_cluster_30 ?_
          refine g_iload_n F 2 rfl dX11_cluster_31 ?_
          refine g_cVv F (wr := []) [] (c_X11_pieces E A ln pl td zi rf rg co bs2_22 zt al pp pw ph n kd rk ps L tN I r9 (hK) (hZ) (hr9)) (gi_V tw_ml_X11_140 tw_im_X11_pieces tw_se_X11_pieces tw_in_X11 tw_co_X11_pieces) 1 rfl (by decide) ⟨rfl, rfl, by decide, by decide, Nat.zero_le _, Nat.zero_le _⟩ 11 0 rfl rfl [0, 1, 2, 3, 4, 5, 6, 7, 8, 9, 10, 11, 12, 13] [] [0, 1, 2, 3, 4, 5, 6, 7, 8, 9, 10, 11, 12, 13] (fun u => [ob (A 0) 11 [.int (nI n), .int (nI kd), .ref (A 1), .ref (A 2), .ref (A 3), .ref (A 4), .int (nI rk), .ref (A 5), .ref (A 6), .ref (A 7), .ref (A 8), .ref (A 9), .ref (A 10), .ref (A 11), .int ps, .ref (A 12), .ref (A 13)], ia E (A 1) 60 ln, ia E (A 2) 480 pl, ia E (A 3) 3600 td, za E (A 4) 60 zi, ia E (A 5) 60 rf, ia E (A 6) 60 rg, ia E (A 7) 81 u.1, ia E (A 8) 3 bs2_22, za E (A 9) 60 zt, ia E (A 10) 3600 al, ia E (A 11) 60 u.2, ia E (A 12) 60 pw, ia E (A 13) 60 ph]) rfl rfl (by decide) (fun _ => rfl) rfl (Nat.le_of_ble_eq_true rfl) dX11_cluster_32 (fun u hu_32 => ?_)
          obtain ⟨co_t, pp_t⟩ := u
          refine g_ws [ob (A 0) 11 [.int (nI n), .int (nI kd), .ref (A 1), .ref (A 2), .ref (A 3), .ref (A 4), .int (nI rk), .ref (A 5), .ref (A 6), .ref (A 7), .ref (A 8), .ref (A 9), .ref (A 10), .ref (A 11), .int ps, .ref (A 12), .ref (A 13)], ia E (A 1) 60 ln, ia E (A 2) 480 pl, ia E (A 3) 3600 td, za E (A 4) 60 zi, ia E (A 5) 60 rf, ia E (A 6) 60 rg, ia E (A 7) 81 co_t, ia E (A 8) 3 bs2_22, za E (A 9) 60 zt, ia E (A 10) 3600 al, ia E (A 11) 60 pp_t, ia E (A 12) 60 pw, ia E (A 13) 60 ph] rfl ?_
          dsimp only at hu_32
          obtain ⟨lab, hlb, hlab⟩ := hu_32
          refine g_aload_n F 0 rfl dX11_cluster_35 ?_
          refine g_get F 11 0 13 inX11 rfl rfl (by decide) tw_fl_X11_41 rfl dX11_cluster_36 ?_
          refine g_iload_n F 1 rfl dX11_cluster_39 ?_
          refine g_iald F 11 rfl (by omega) (by decide) dX11_cluster_40 ?_
          exact R _ ((co_t, bs2_22, pp_t)) _ _ dX11_cluster_41 (by (try dsimp only); exact (Or.inl ⟨t_2, r9, ht_2, rfl, c_14, hr9, rfl, hlw, lab, hlab, (hlb t_2 ht_2).1⟩))
        · refine g_if_ne F 30 dX11_cluster_25 (by decide) (fun h => absurd (by decide) h) (fun _ => ?_)
          refine g_iconst F (-1) (by decide) dX11_cluster_28 ?_
          exact R _ ((co, bs2_22, pp)) _ _ dX11_cluster_29 (by (try dsimp only); exact (Or.inr ⟨fun _ _ _ _ _ _ _ => lwk_no hk5 htb, rfl⟩))
  · refine g_if_eq F 28 dX11_cluster_5 (by decide) (fun _ => ?_) (fun h => absurd (by decide) h)
    refine g_iconst F (-1) (by decide) dX11_cluster_28 ?_
    exact R _ ((co, bs, pp)) _ _ dX11_cluster_29 (by (try dsimp only); exact (Or.inr ⟨fun t0 r0 h1 h2 h3 h4 h5 => absurd h2 (hno_2 t0 h1), rfl⟩))
