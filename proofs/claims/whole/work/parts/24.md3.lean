def NXP (key : Nat → Nat) (I T : Nat → Bool) (i : Nat) (w : Int32) : Prop := (w = -1 ∧ ∀ t, t < i → I t = true → T t = true) ∨ ∃ s, w = nI s ∧ s < i ∧ I s = true ∧ T s = false ∧ ∀ t, t < i → I t = true → T t = false → key s ≤ key t
theorem nx_skip {key : Nat → Nat} {I T : Nat → Bool} {i : Nat} {w : Int32} (h : NXP key I T i w) (hi : I i = true → T i = true) : NXP key I T (i + 1) w := by
  rcases h with ⟨h1, h2⟩ | ⟨s, h1, h2, h3, h4, h5⟩
  · exact Or.inl ⟨h1, lt_s h2 hi⟩
  · refine Or.inr ⟨s, h1, by omega, h3, h4, lt_s h5 (fun a b => ?_)⟩
    rw [hi a] at b
    cases b
theorem nx_new {key : Nat → Nat} {I T : Nat → Bool} {i : Nat} {w : Int32} (h : NXP key I T i w) (hw : w = -1) (h1 : I i = true) (h2 : T i = false) (hi : i < 2 ^ 31) : NXP key I T (i + 1) (nI i) := by
  rcases h with ⟨-, h3⟩ | ⟨s, e, h3, -⟩
  · refine Or.inr ⟨i, rfl, by omega, h1, h2, lt_s (fun t ht a b => ?_) (fun _ _ => Nat.le_refl _)⟩
    rw [h3 t ht a] at b
    cases b
  · rw [e] at hw
    exact absurd hw (nI_m1 (by omega))
theorem nx_keep {key : Nat → Nat} {I T : Nat → Bool} {i s : Nat} (h1 : s < i) (h2 : I s = true) (h3 : T s = false) (h4 : ∀ t, t < i → I t = true → T t = false → key s ≤ key t) (hk : key s ≤ key i) : NXP key I T (i + 1) (nI s) := Or.inr ⟨s, rfl, by omega, h2, h3, lt_s h4 (fun _ _ => hk)⟩
theorem nx_take {key : Nat → Nat} {I T : Nat → Bool} {i s : Nat} (h1 : I i = true) (h2 : T i = false) (h4 : ∀ t, t < i → I t = true → T t = false → key s ≤ key t) (hk : key i ≤ key s) : NXP key I T (i + 1) (nI i) := Or.inr ⟨i, rfl, by omega, h1, h2, lt_s (fun t ht a b => Nat.le_trans hk (h4 t ht a b)) (fun _ _ => Nat.le_refl _)⟩
def NXT (key : Nat → Nat) (I T : Nat → Bool) (w : Int32) : Prop := (w = -1 ∧ ∀ t, I t = true → T t = true) ∨ ∃ s, w = nI s ∧ I s = true ∧ T s = false ∧ ∀ t, I t = true → T t = false → key s ≤ key t
theorem nx_fin {key : Nat → Nat} {n : Nat} {zi : Nat → Int32} {I T : Nat → Bool} {w : Int32} (hZ : ZI n zi I) (h : NXP key I T n w) : NXT key I T w := by
  rcases h with ⟨h1, h2⟩ | ⟨s, h1, h2, h3, h4, h5⟩
  · exact Or.inl ⟨h1, fun t ht => h2 t (hZ.2 t ht) ht⟩
  · exact Or.inr ⟨s, h1, h3, h4, fun t ht => h5 t (hZ.2 t ht) ht⟩
def THS (D key : Nat → Nat) (I T : Nat → Bool) (r0 c : Nat) (ka : Nat → Nat) : Prop := (∀ t, t < 60 → (T t = true ↔ ∃ i, i < c ∧ ka i = key t)) ∧ (∀ i, i < c → ∃ t, I t = true ∧ t < 60 ∧ D t ≤ r0 ∧ ka i = key t) ∧ (∀ i j, i < j → j < c → ka i < ka j) ∧ ∀ t, I t = true → T t = false → ∀ i, i < c → ka i < key t
theorem ths_0 {D key : Nat → Nat} {I : Nat → Bool} {r0 : Nat} {ka : Nat → Nat} : THS D key I (fun _ => false) r0 0 ka := ⟨fun t _ => ⟨fun z => by simp at z, fun ⟨i, hi, _⟩ => absurd hi (Nat.not_lt_zero i)⟩, fun i hi => absurd hi (Nat.not_lt_zero i), fun i j _ hj => absurd hj (Nat.not_lt_zero j), fun t _ _ i hi => absurd hi (Nat.not_lt_zero i)⟩
theorem ths_step {D key : Nat → Nat} {I T : Nat → Bool} {r0 c s : Nat} {ka : Nat → Nat} (hkey : ∀ t, t < 60 → key t % 60 = t) (hI : ∀ t, I t = true → t < 60) (h : THS D key I T r0 c ka) (h1 : I s = true) (h2 : T s = false) (h3 : D s ≤ r0) (h4 : ∀ t, I t = true → T t = false → key s ≤ key t) : THS D key I (setB T s) r0 (c + 1) (setN ka c (key s)) := by
  have hs := hI s h1
  have inj : ∀ t, t < 60 → key t = key s → t = s := fun t ht e => by rw [← hkey t ht, e, hkey s hs]
  refine ⟨fun t ht => ?_, fun i hi => ?_, fun i j hij hj => ?_, fun t ht hT i hi => ?_⟩
  · unfold setB
    by_cases c1 : t = s
    · rw [if_pos c1, c1]
      exact ⟨fun _ => ⟨c, by omega, setN_s ka c (key s)⟩, fun _ => rfl⟩
    · rw [if_neg c1, h.1 t ht]
      constructor
      · rintro ⟨i, hi, e⟩
        exact ⟨i, by omega, by rw [setN_n (by omega)]; exact e⟩
      · rintro ⟨i, hi, e⟩
        rcases Nat.lt_or_ge i c with q | q
        · exact ⟨i, q, by rw [setN_n (by omega)] at e; exact e⟩
        · rw [show i = c by omega, setN_s] at e
          exact absurd (inj t ht e.symm) c1
  · rcases Nat.lt_or_ge i c with q | q
    · rw [setN_n (by omega)]
      exact h.2.1 i q
    · rw [show i = c by omega, setN_s]
      exact ⟨s, h1, hs, h3, rfl⟩
  · rcases Nat.lt_or_ge j c with q | q
    · rw [setN_n (by omega), setN_n (by omega)]
      exact h.2.2.1 i j hij q
    · rw [show j = c by omega, setN_s, setN_n (by omega)]
      exact h.2.2.2 s h1 h2 i (by omega)
  · unfold setB at hT
    by_cases c1 : t = s
    · rw [if_pos c1] at hT; cases hT
    · rw [if_neg c1] at hT
      rcases Nat.lt_or_ge i c with q | q
      · rw [setN_n (by omega)]
        exact h.2.2.2 t ht hT i q
      · rw [show i = c by omega, setN_s]
        have := h4 t ht hT
        rcases Nat.lt_or_ge (key s) (key t) with y | y
        · exact y
        · exact absurd (inj t (hI t ht) (by omega)) c1
theorem ths_rkn {D key : Nat → Nat} {I T : Nat → Bool} {r0 m0 c : Nat} {ka : Nat → Nat} (hI : ∀ t, I t = true → t < 60) (h : THS D key I T r0 c ka) (hc : c ≤ m0) (he : c = m0 ∨ ∀ t, I t = true → T t = false → r0 < D t) : RKN (fun z => ∃ t, I t = true ∧ D t ≤ r0 ∧ z = key t) m0 c ka := by
  refine ⟨h.2.2.1, fun i hi => ?_, hc, fun x hx => ?_⟩
  · obtain ⟨t, q1, -, q2, q3⟩ := h.2.1 i hi
    exact ⟨t, q1, q2, q3⟩
  · obtain ⟨t, q1, q2, q3⟩ := hx
    cases z : T t with
    | true =>
      obtain ⟨i, hi, e⟩ := (h.1 t (hI t q1)).mp z
      exact Or.inl ⟨i, hi, by rw [e, q3]⟩
    | false =>
      rcases he with e | e
      · exact Or.inr ⟨e, fun i hi => by rw [q3]; exact h.2.2.2 t q1 z i hi⟩
      · have := e t q1 z; omega
theorem rkn_iff {K K2 : Nat → Prop} {m0 c : Nat} {ka : Nat → Nat} (h : RKN K m0 c ka) (e : ∀ x, K x ↔ K2 x) : RKN K2 m0 c ka := ⟨h.1, fun i hi => (e _).mp (h.2.1 i hi), h.2.2.1, fun x hx => h.2.2.2 x ((e x).mpr hx)⟩

set_option maxHeartbeats 4000000 in
set_option maxRecDepth 100000 in
theorem c_X11_next_n (E : Ev) (A : Nat → Nat) (ln : Nat → Int32) (pl : Nat → Int32) (td : Nat → Int32) (zi : Nat → Int32) (rf : Nat → Int32) (rg : Nat → Int32) (co : Nat → Int32) (bs : Nat → Int32) (zt : Nat → Int32) (al : Nat → Int32) (pp : Nat → Int32) (pw : Nat → Int32) (ph : Nat → Int32) (n : Nat) (kd : Nat) (rk : Nat) (ps : Int32) (L : Nat → Nat) (tN : Nat → Nat) (I : Nat → Bool) (q0 : Nat) (T : Nat → Bool) (hK : MDK n kd L ln pl tN td) (hZ : ZI n zi I) (hq : q0 < n) (hT : ∀ t, t < 60 → zt t = bI (T t)) : CTi E yX11_next (wq yX11_next cX11_next 5 (some .int)) (rmk 3 75) [.ref (A 0), .int (nI q0), .int (nI 1)] [ob (A 0) 11 [.int (nI n), .int (nI kd), .ref (A 1), .ref (A 2), .ref (A 3), .ref (A 4), .int (nI rk), .ref (A 5), .ref (A 6), .ref (A 7), .ref (A 8), .ref (A 9), .ref (A 10), .ref (A 11), .int ps, .ref (A 12), .ref (A 13)], ia E (A 1) 60 ln, ia E (A 2) 480 pl, ia E (A 3) 3600 td, za E (A 4) 60 zi, ia E (A 5) 60 rf, ia E (A 6) 60 rg, ia E (A 7) 81 co, ia E (A 8) 3 bs, za E (A 9) 60 zt, ia E (A 10) 3600 al, ia E (A 11) 60 pp, ia E (A 12) 60 pw, ia E (A 13) 60 ph] (fun (r : Int32) (u : (Nat → Int32)) => NXT (fun t => dsN kd L pl tN q0 t * 60 + t) I T r) (fun (u : (Nat → Int32)) => [ob (A 0) 11 [.int (nI n), .int (nI kd), .ref (A 1), .ref (A 2), .ref (A 3), .ref (A 4), .int (nI rk), .ref (A 5), .ref (A 6), .ref (A 7), .ref (A 8), .ref (A 9), .ref (A 10), .ref (A 11), .int ps, .ref (A 12), .ref (A 13)], ia E (A 1) 60 ln, ia E (A 2) 480 pl, ia E (A 3) 3600 td, za E (A 4) 60 zi, ia E (A 5) 60 rf, ia E (A 6) 60 rg, ia E (A 7) 81 u, ia E (A 8) 3 bs, za E (A 9) 60 zt, ia E (A 10) 3600 al, ia E (A 11) 60 pp, ia E (A 12) 60 pw, ia E (A 13) 60 ph]) := by
  refine CTi.of (by decide) (Nat.le_of_ble_eq_true rfl) (fun X F R => ?_)
  refine g_lv [0, 1, 2] [(0, .ref (A 0)), (1, .int (nI q0)), (2, .int (nI 1))] rfl ?_
  have hn60 := hK.1
  refine g_iconst F (-1) (by decide) dX11_next_0 ?_
  refine g_istore_n F 3 [(0, .ref (A 0)), (1, .int (nI q0)), (2, .int (nI 1)), (3, .int (-1))] [1, 2, 3, 0] dX11_next_1 rfl (by decide) rfl ?_
  refine g_iconst F (nI 0) (by decide) dX11_next_2 ?_
  refine g_istore F 4 [(0, .ref (A 0)), (1, .int (nI q0)), (2, .int (nI 1)), (3, .int (-1)), (4, .int (nI 0))] [1, 2, 3, 4, 0] dX11_next_3 (by decide) rfl ?_
  have lp_5 : ∀ (n_5 : Nat) (i : Nat) (w : Int32) (g : Nat → Int32), (i ≤ n) → (NXP (fun t => dsN kd L pl tN q0 t * 60 + t) I T i w) → n - i < n_5 → GW E X 0 0 [ob (A 0) 11 [.int (nI n), .int (nI kd), .ref (A 1), .ref (A 2), .ref (A 3), .ref (A 4), .int (nI rk), .ref (A 5), .ref (A 6), .ref (A 7), .ref (A 8), .ref (A 9), .ref (A 10), .ref (A 11), .int ps, .ref (A 12), .ref (A 13)], ia E (A 1) 60 ln, ia E (A 2) 480 pl, ia E (A 3) 3600 td, za E (A 4) 60 zi, ia E (A 5) 60 rf, ia E (A 6) 60 rg, ia E (A 7) 81 g, ia E (A 8) 3 bs, za E (A 9) 60 zt, ia E (A 10) 3600 al, ia E (A 11) 60 pp, ia E (A 12) 60 pw, ia E (A 13) 60 ph] [(0, .ref (A 0)), (1, .int (nI q0)), (2, .int (nI 1)), (3, .int w), (4, .int (nI i))] 5 [] := by
    intro n_5
    induction n_5 with
    | zero => intro i w g hi hw hm_5; exact absurd hm_5 (Nat.not_lt_zero _)
    | succ n_5 ih_5 =>
      intro i w g hi hw hm_5
      refine g_iload F 4 rfl dX11_next_5 ?_
      refine g_aload_n F 0 rfl dX11_next_7 ?_
      refine g_get F 11 0 0 inX11 rfl rfl (by decide) tw_fl_X11_50 rfl dX11_next_8 ?_
      refine n_icmp_ge F 90 dX11_next_11 (by decide) (by omega) (by omega) (fun c_11 => ?_) (fun c_11 => ?_)
      · refine g_iload_n F 3 rfl dX11_next_90 ?_
        exact R _ g _ _ dX11_next_91 (nx_fin hZ (by rw [show n = i by omega]; exact hw))
      · refine g_aload_n F 0 rfl dX11_next_14 ?_
        refine g_get F 11 0 5 inX11 rfl rfl (by decide) tw_fl_X11_19 rfl dX11_next_15 ?_
        refine g_iload F 4 rfl dX11_next_18 ?_
        refine g_zald F 4 rfl (by omega) (by decide) dX11_next_20 ?_
        refine g_top (bI (I i)) (hZ.1 i (by omega)) ?_
        refine b_if_eq F 84 dX11_next_21 (by decide) (fun c_21 => ?_) (fun c_21 => ?_)
        · refine g_iinc F (nI (i + 1)) 4 4 [(0, .ref (A 0)), (1, .int (nI q0)), (2, .int (nI 1)), (3, .int w), (4, .int (nI (i + 1)))] [1, 2, 3, 4, 0] dX11_next_84 rfl (n_inc i) (by decide) rfl ?_
          refine g_goto F 5 dX11_next_87 (by decide) ?_
          exact ih_5 (i + 1) w g (by omega) (nx_skip hw (fun z => by rw [c_21] at z; cases z)) (by omega)
        · refine g_aload_n F 0 rfl dX11_next_24 ?_
          refine g_get F 11 0 11 inX11 rfl rfl (by decide) tw_fl_X11_35 rfl dX11_next_25 ?_
          refine g_iload F 4 rfl dX11_next_28 ?_
          refine g_zald F 9 rfl (by omega) (by decide) dX11_next_30 ?_
          refine g_top (bI (T i)) (hT i (by omega)) ?_
          refine b_if_eq F 37 dX11_next_31 (by decide) (fun c_31 => ?_) (fun c_31 => ?_)
          · refine g_iload_n F 3 rfl dX11_next_37 ?_
            refine g_iconst F (-1) (by decide) dX11_next_38 ?_
            refine g_icmp_eq F 81 dX11_next_39 (by decide) (fun c_39 => ?_) (fun c_39 => ?_)
            · refine g_iload F 4 rfl dX11_next_81 ?_
              refine g_istore_n F 3 [(0, .ref (A 0)), (1, .int (nI q0)), (2, .int (nI 1)), (3, .int (nI i)), (4, .int (nI i))] [1, 2, 3, 0, 4] dX11_next_83 rfl (by decide) rfl ?_
              refine g_iinc F (nI (i + 1)) 4 4 [(0, .ref (A 0)), (1, .int (nI q0)), (2, .int (nI 1)), (3, .int (nI i)), (4, .int (nI (i + 1)))] [1, 2, 3, 4, 0] dX11_next_84 rfl (n_inc i) (by decide) rfl ?_
              refine g_goto F 5 dX11_next_87 (by decide) ?_
              exact ih_5 (i + 1) (nI i) g (by omega) (nx_new hw c_39 c_21 c_31 (by omega)) (by omega)
            · obtain ⟨s, rfl, hs1, hs2, hs3, hs4⟩ := hw.resolve_left (fun z => c_39 z.1)
              refine g_iload_n F 2 rfl dX11_next_42 ?_
              refine g_top (1) (by decide) ?_
              refine g_if_eq F 65 dX11_next_43 (by decide) (fun h => absurd h (by decide)) (fun _ => ?_)
              refine g_aload_n F 0 rfl dX11_next_46 ?_
              refine g_iload_n F 1 rfl dX11_next_47 ?_
              refine g_iload F 4 rfl dX11_next_48 ?_
              refine g_cVi F (wr := []) [] (c_X11_far E A ln pl td zi rf rg g bs zt al pp pw ph n kd rk ps L tN I q0 i (hK) (hZ) (by omega) (by omega)) (gi_V tw_ml_X11_86 tw_im_X11_far tw_se_X11_far tw_in_X11 tw_co_X11_far) 2 rfl (by decide) ⟨rfl, rfl, by decide, by decide, Nat.zero_le _, Nat.zero_le _⟩ 11 0 rfl rfl [0, 1, 2, 3, 4, 5, 6, 7, 8, 9, 10, 11, 12, 13] [] [0, 1, 2, 3, 4, 5, 6, 7, 8, 9, 10, 11, 12, 13] (fun u => [ob (A 0) 11 [.int (nI n), .int (nI kd), .ref (A 1), .ref (A 2), .ref (A 3), .ref (A 4), .int (nI rk), .ref (A 5), .ref (A 6), .ref (A 7), .ref (A 8), .ref (A 9), .ref (A 10), .ref (A 11), .int ps, .ref (A 12), .ref (A 13)], ia E (A 1) 60 ln, ia E (A 2) 480 pl, ia E (A 3) 3600 td, za E (A 4) 60 zi, ia E (A 5) 60 rf, ia E (A 6) 60 rg, ia E (A 7) 81 u, ia E (A 8) 3 bs, za E (A 9) 60 zt, ia E (A 10) 3600 al, ia E (A 11) 60 pp, ia E (A 12) 60 pw, ia E (A 13) 60 ph]) rfl rfl (by decide) (fun _ => rfl) rfl (Nat.le_of_ble_eq_true rfl) dX11_next_50 (fun r_50 u hu_50 => ?_)
              revert hu_50; revert u; intro co_50 hu_50
              subst hu_50
              refine g_aload_n F 0 rfl dX11_next_53 ?_
              refine g_iload_n F 1 rfl dX11_next_54 ?_
              refine g_iload_n F 3 rfl dX11_next_55 ?_
              refine g_cVi F (wr := []) [.int (nI (dsN kd L pl tN q0 i))] (c_X11_far E A ln pl td zi rf rg co_50 bs zt al pp pw ph n kd rk ps L tN I q0 s (hK) (hZ) (by omega) (by omega)) (gi_V tw_ml_X11_86 tw_im_X11_far tw_se_X11_far tw_in_X11 tw_co_X11_far) 2 rfl (by decide) ⟨rfl, rfl, by decide, by decide, Nat.zero_le _, Nat.zero_le _⟩ 11 0 rfl rfl [0, 1, 2, 3, 4, 5, 6, 7, 8, 9, 10, 11, 12, 13] [] [0, 1, 2, 3, 4, 5, 6, 7, 8, 9, 10, 11, 12, 13] (fun u => [ob (A 0) 11 [.int (nI n), .int (nI kd), .ref (A 1), .ref (A 2), .ref (A 3), .ref (A 4), .int (nI rk), .ref (A 5), .ref (A 6), .ref (A 7), .ref (A 8), .ref (A 9), .ref (A 10), .ref (A 11), .int ps, .ref (A 12), .ref (A 13)], ia E (A 1) 60 ln, ia E (A 2) 480 pl, ia E (A 3) 3600 td, za E (A 4) 60 zi, ia E (A 5) 60 rf, ia E (A 6) 60 rg, ia E (A 7) 81 u, ia E (A 8) 3 bs, za E (A 9) 60 zt, ia E (A 10) 3600 al, ia E (A 11) 60 pp, ia E (A 12) 60 pw, ia E (A 13) 60 ph]) rfl rfl (by decide) (fun _ => rfl) rfl (Nat.le_of_ble_eq_true rfl) dX11_next_56 (fun r_56 u hu_56 => ?_)
              revert hu_56; revert u; intro co_56 hu_56
              subst hu_56
              refine n_icmp_ge F 84 dX11_next_59 (by decide) (by have := ds_le (kd := kd) (a := q0) (b := i) hK.2.2.1 hK.2.2.2.1 hK.2.2.2.2.1 (by omega) (by omega); omega) (by have := ds_le (kd := kd) (a := q0) (b := s) hK.2.2.1 hK.2.2.2.1 hK.2.2.2.2.1 (by omega) (by omega); omega) (fun c_59 => ?_) (fun c_59 => ?_)
              · refine g_iinc F (nI (i + 1)) 4 4 [(0, .ref (A 0)), (1, .int (nI q0)), (2, .int (nI 1)), (3, .int (nI s)), (4, .int (nI (i + 1)))] [1, 2, 3, 4, 0] dX11_next_84 rfl (n_inc i) (by decide) rfl ?_
                refine g_goto F 5 dX11_next_87 (by decide) ?_
                exact ih_5 (i + 1) (nI s) co_56 (by omega) (nx_keep hs1 hs2 hs3 hs4 (by
                    have d1 := ds_le (kd := kd) (a := q0) (b := s) hK.2.2.1 hK.2.2.2.1 hK.2.2.2.2.1 (by omega) (by omega)
                    have d2 := ds_le (kd := kd) (a := q0) (b := i) hK.2.2.1 hK.2.2.2.1 hK.2.2.2.2.1 (by omega) (by omega)
                    show _ * 60 + _ ≤ _ * 60 + _
                    omega)) (by omega)
              · refine g_goto F 81 dX11_next_62 (by decide) ?_
                refine g_iload F 4 rfl dX11_next_81 ?_
                refine g_istore_n F 3 [(0, .ref (A 0)), (1, .int (nI q0)), (2, .int (nI 1)), (3, .int (nI i)), (4, .int (nI i))] [1, 2, 3, 0, 4] dX11_next_83 rfl (by decide) rfl ?_
                refine g_iinc F (nI (i + 1)) 4 4 [(0, .ref (A 0)), (1, .int (nI q0)), (2, .int (nI 1)), (3, .int (nI i)), (4, .int (nI (i + 1)))] [1, 2, 3, 4, 0] dX11_next_84 rfl (n_inc i) (by decide) rfl ?_
                refine g_goto F 5 dX11_next_87 (by decide) ?_
                exact ih_5 (i + 1) (nI i) co_56 (by omega) (nx_take c_21 c_31 hs4 (by
                    have d1 := ds_le (kd := kd) (a := q0) (b := s) hK.2.2.1 hK.2.2.2.1 hK.2.2.2.2.1 (by omega) (by omega)
                    have d2 := ds_le (kd := kd) (a := q0) (b := i) hK.2.2.1 hK.2.2.2.1 hK.2.2.2.2.1 (by omega) (by omega)
                    show _ * 60 + _ ≤ _ * 60 + _
                    omega)) (by omega)
          · refine g_goto F 84 dX11_next_34 (by decide) ?_
            refine g_iinc F (nI (i + 1)) 4 4 [(0, .ref (A 0)), (1, .int (nI q0)), (2, .int (nI 1)), (3, .int w), (4, .int (nI (i + 1)))] [1, 2, 3, 4, 0] dX11_next_84 rfl (n_inc i) (by decide) rfl ?_
            refine g_goto F 5 dX11_next_87 (by decide) ?_
            exact ih_5 (i + 1) w g (by omega) (nx_skip hw (fun _ => c_31)) (by omega)
  exact lp_5 _ 0 (-1) co (by omega) (Or.inl ⟨rfl, fun t h => absurd h (Nat.not_lt_zero t)⟩) (Nat.lt_succ_self _)

set_option maxHeartbeats 4000000 in
set_option maxRecDepth 100000 in
theorem c_X11_those_n (E : Ev) (A : Nat → Nat) (ln : Nat → Int32) (pl : Nat → Int32) (td : Nat → Int32) (zi : Nat → Int32) (rf : Nat → Int32) (rg : Nat → Int32) (co : Nat → Int32) (bs : Nat → Int32) (zt : Nat → Int32) (al : Nat → Int32) (pp : Nat → Int32) (pw : Nat → Int32) (ph : Nat → Int32) (n : Nat) (kd : Nat) (rk : Nat) (ps : Int32) (L : Nat → Nat) (tN : Nat → Nat) (I : Nat → Bool) (q0 : Nat) (m0 : Nat) (r0 : Nat) (hK : MDK n kd L ln pl tN td) (hZ : ZI n zi I) (hq : q0 < n) (hm0 : m0 ≤ 60) (hr0 : r0 < 2 ^ 31) : CTi E yX11_those (wq yX11_those cX11_those 6 (some .int)) (rmk 4 99) [.ref (A 0), .int (nI q0), .int (nI m0), .int (nI 1), .int (nI r0)] [ob (A 0) 11 [.int (nI n), .int (nI kd), .ref (A 1), .ref (A 2), .ref (A 3), .ref (A 4), .int (nI rk), .ref (A 5), .ref (A 6), .ref (A 7), .ref (A 8), .ref (A 9), .ref (A 10), .ref (A 11), .int ps, .ref (A 12), .ref (A 13)], ia E (A 1) 60 ln, ia E (A 2) 480 pl, ia E (A 3) 3600 td, za E (A 4) 60 zi, ia E (A 5) 60 rf, ia E (A 6) 60 rg, ia E (A 7) 81 co, ia E (A 8) 3 bs, za E (A 9) 60 zt, ia E (A 10) 3600 al, ia E (A 11) 60 pp, ia E (A 12) 60 pw, ia E (A 13) 60 ph] (fun (r : Int32) (u : (Nat → Int32) × (Nat → Int32) × (Nat → Int32) × (Nat → Int32) × Nat) => r = nI u.2.2.2.2 ∧ u.2.2.2.2 ≤ 60 ∧ ∃ ka, RKN (fun z => ∃ t, I t = true ∧ dsN kd L pl tN q0 t ≤ r0 ∧ z = (fun t => dsN kd L pl tN q0 t * 60 + t) t) m0 u.2.2.2.2 ka ∧ ∀ i, i < u.2.2.2.2 → u.2.2.1 i = nI (ka i % 60) ∧ u.2.2.2.1 i = nI (dsN kd L pl tN q0 (ka i % 60))) (fun (u : (Nat → Int32) × (Nat → Int32) × (Nat → Int32) × (Nat → Int32) × Nat) => [ob (A 0) 11 [.int (nI n), .int (nI kd), .ref (A 1), .ref (A 2), .ref (A 3), .ref (A 4), .int (nI u.2.2.2.2), .ref (A 5), .ref (A 6), .ref (A 7), .ref (A 8), .ref (A 9), .ref (A 10), .ref (A 11), .int ps, .ref (A 12), .ref (A 13)], ia E (A 1) 60 ln, ia E (A 2) 480 pl, ia E (A 3) 3600 td, za E (A 4) 60 zi, ia E (A 5) 60 u.2.2.1, ia E (A 6) 60 u.2.2.2.1, ia E (A 7) 81 u.1, ia E (A 8) 3 bs, za E (A 9) 60 u.2.1, ia E (A 10) 3600 al, ia E (A 11) 60 pp, ia E (A 12) 60 pw, ia E (A 13) 60 ph]) := by
  refine CTi.of (by decide) (Nat.le_of_ble_eq_true rfl) (fun X F R => ?_)
  refine g_lv [0, 1, 2, 3, 4] [(0, .ref (A 0)), (1, .int (nI q0)), (2, .int (nI m0)), (3, .int (nI 1)), (4, .int (nI r0))] rfl ?_
  have hn60 := hK.1
  have hI60 : ∀ t, I t = true → t < 60 := fun t ht => Nat.lt_of_lt_of_le (hZ.2 t ht) hn60
  refine g_aload_n F 0 rfl dX11_those_0 ?_
  refine g_cVv F (wr := []) [] (c_X11_takesNone E A ln pl td zi rf rg co bs zt al pp pw ph n kd rk ps L tN I (hK) (hZ)) (gi_V tw_ml_X11_96 tw_im_X11_takesNone tw_se_X11_takesNone tw_in_X11 tw_co_X11_takesNone) 0 rfl (by decide) ⟨rfl, rfl, by decide, by decide, Nat.zero_le _, Nat.zero_le _⟩ 11 0 rfl rfl [0, 1, 2, 3, 4, 5, 6, 7, 8, 9, 10, 11, 12, 13] [] [0, 1, 2, 3, 4, 5, 6, 7, 8, 9, 10, 11, 12, 13] (fun u => [ob (A 0) 11 [.int (nI n), .int (nI kd), .ref (A 1), .ref (A 2), .ref (A 3), .ref (A 4), .int (nI rk), .ref (A 5), .ref (A 6), .ref (A 7), .ref (A 8), .ref (A 9), .ref (A 10), .ref (A 11), .int ps, .ref (A 12), .ref (A 13)], ia E (A 1) 60 ln, ia E (A 2) 480 pl, ia E (A 3) 3600 td, za E (A 4) 60 zi, ia E (A 5) 60 rf, ia E (A 6) 60 rg, ia E (A 7) 81 co, ia E (A 8) 3 bs, za E (A 9) 60 u, ia E (A 10) 3600 al, ia E (A 11) 60 pp, ia E (A 12) 60 pw, ia E (A 13) 60 ph]) rfl rfl (by decide) (fun _ => rfl) rfl (Nat.le_of_ble_eq_true rfl) dX11_those_1 (fun u hu_1 => ?_)
  revert hu_1; revert u; intro zt_0 hu_1
  refine g_aload_n F 0 rfl dX11_those_4 ?_
  refine g_iconst F (nI 0) (by decide) dX11_those_5 ?_
  refine g_put F 11 0 6 [ob (A 0) 11 [.int (nI n), .int (nI kd), .ref (A 1), .ref (A 2), .ref (A 3), .ref (A 4), .int (nI 0), .ref (A 5), .ref (A 6), .ref (A 7), .ref (A 8), .ref (A 9), .ref (A 10), .ref (A 11), .int ps, .ref (A 12), .ref (A 13)], ia E (A 1) 60 ln, ia E (A 2) 480 pl, ia E (A 3) 3600 td, za E (A 4) 60 zi, ia E (A 5) 60 rf, ia E (A 6) 60 rg, ia E (A 7) 81 co, ia E (A 8) 3 bs, za E (A 9) 60 zt_0, ia E (A 10) 3600 al, ia E (A 11) 60 pp, ia E (A 12) 60 pw, ia E (A 13) 60 ph] inX11 tyX11_ok nmX11 rfl rfl (by decide) tw_fl_X11_93 rfl rfl rfl rfl (Nat.le_of_ble_eq_true rfl) rfl dX11_those_6 ?_
  refine g_aload_n F 0 rfl dX11_those_9 ?_
  refine g_iload_n F 1 rfl dX11_those_10 ?_
  refine g_iload_n F 3 rfl dX11_those_11 ?_
  refine g_cVi F (wr := []) [] (c_X11_next_n E A ln pl td zi rf rg co bs zt_0 al pp pw ph n kd 0 ps L tN I q0 (fun _ => false) (hK) (hZ) (hq) (hu_1)) (gi_V tw_ml_X11_99 tw_im_X11_next tw_se_X11_next tw_in_X11 tw_co_X11_next) 2 rfl (by decide) ⟨rfl, rfl, by decide, by decide, Nat.zero_le _, Nat.zero_le _⟩ 11 0 rfl rfl [0, 1, 2, 3, 4, 5, 6, 7, 8, 9, 10, 11, 12, 13] [] [0, 1, 2, 3, 4, 5, 6, 7, 8, 9, 10, 11, 12, 13] (fun u => [ob (A 0) 11 [.int (nI n), .int (nI kd), .ref (A 1), .ref (A 2), .ref (A 3), .ref (A 4), .int (nI 0), .ref (A 5), .ref (A 6), .ref (A 7), .ref (A 8), .ref (A 9), .ref (A 10), .ref (A 11), .int ps, .ref (A 12), .ref (A 13)], ia E (A 1) 60 ln, ia E (A 2) 480 pl, ia E (A 3) 3600 td, za E (A 4) 60 zi, ia E (A 5) 60 rf, ia E (A 6) 60 rg, ia E (A 7) 81 u, ia E (A 8) 3 bs, za E (A 9) 60 zt_0, ia E (A 10) 3600 al, ia E (A 11) 60 pp, ia E (A 12) 60 pw, ia E (A 13) 60 ph]) rfl rfl (by decide) (fun _ => rfl) rfl (Nat.le_of_ble_eq_true rfl) dX11_those_12 (fun r_12 u hu_12 => ?_)
  revert hu_12; revert u; intro co_12 hu_12
  refine g_istore F 5 [(0, .ref (A 0)), (1, .int (nI q0)), (2, .int (nI m0)), (3, .int (nI 1)), (4, .int (nI r0)), (5, .int r_12)] [1, 2, 3, 4, 5, 0] dX11_those_15 (by decide) rfl ?_
  have lp_17 : ∀ (n_17 : Nat) (c : Nat) (w : Int32) (T : Nat → Bool) (g : Nat → Int32) (z1 : Nat → Int32) (r1 : Nat → Int32) (r2 : Nat → Int32) (ka : Nat → Nat), (c ≤ m0) → (∀ t, t < 60 → z1 t = bI (T t)) → (NXT (fun t => dsN kd L pl tN q0 t * 60 + t) I T w) → (THS (fun t => dsN kd L pl tN q0 t) (fun t => dsN kd L pl tN q0 t * 60 + t) I T r0 c ka) → (∀ i, i < c → r1 i = nI (ka i % 60) ∧ r2 i = nI (dsN kd L pl tN q0 (ka i % 60))) → m0 - c < n_17 → GW E X 0 0 [ob (A 0) 11 [.int (nI n), .int (nI kd), .ref (A 1), .ref (A 2), .ref (A 3), .ref (A 4), .int (nI c), .ref (A 5), .ref (A 6), .ref (A 7), .ref (A 8), .ref (A 9), .ref (A 10), .ref (A 11), .int ps, .ref (A 12), .ref (A 13)], ia E (A 1) 60 ln, ia E (A 2) 480 pl, ia E (A 3) 3600 td, za E (A 4) 60 zi, ia E (A 5) 60 r1, ia E (A 6) 60 r2, ia E (A 7) 81 g, ia E (A 8) 3 bs, za E (A 9) 60 z1, ia E (A 10) 3600 al, ia E (A 11) 60 pp, ia E (A 12) 60 pw, ia E (A 13) 60 ph] [(0, .ref (A 0)), (1, .int (nI q0)), (2, .int (nI m0)), (3, .int (nI 1)), (4, .int (nI r0)), (5, .int w)] 17 [] := by
    intro n_17
    induction n_17 with
    | zero => intro c w T g z1 r1 r2 ka hc hT1 hnx hths hres hm_17; exact absurd hm_17 (Nat.not_lt_zero _)
    | succ n_17 ih_17 =>
      intro c w T g z1 r1 r2 ka hc hT1 hnx hths hres hm_17
      refine g_iload F 5 rfl dX11_those_17 ?_
      refine g_iconst F (-1) (by decide) dX11_those_19 ?_
      refine g_icmp_eq F 67 dX11_those_20 (by decide) (fun c_20 => ?_) (fun c_20 => ?_)
      · refine g_aload_n F 0 rfl dX11_those_67 ?_
        refine g_get F 11 0 6 inX11 rfl rfl (by decide) tw_fl_X11_93 rfl dX11_those_68 ?_
        exact R _ ((g, z1, r1, r2, c)) _ _ dX11_those_71 (by (try dsimp only); exact (⟨rfl, by omega, ka, ths_rkn hI60 hths hc (Or.inr (fun t ht hf => by
            rcases hnx with ⟨-, z⟩ | ⟨s, e9, z9⟩
            · rw [z t ht] at hf; cases hf
            · rw [e9] at c_20
              exact absurd c_20 (nI_m1 (by have := hI60 s z9.1; omega)))), hres⟩))
      · obtain ⟨s, rfl, hs2, hs3, hs4⟩ := hnx.resolve_left (fun z => c_20 z.1)
        have hs60 := hI60 s hs2
        refine g_aload_n F 0 rfl dX11_those_23 ?_
        refine g_get F 11 0 6 inX11 rfl rfl (by decide) tw_fl_X11_93 rfl dX11_those_24 ?_
        refine g_iload_n F 2 rfl dX11_those_27 ?_
        refine n_icmp_ge F 67 dX11_those_28 (by decide) (by omega) (by omega) (fun c_28 => ?_) (fun c_28 => ?_)
        · refine g_aload_n F 0 rfl dX11_those_67 ?_
          refine g_get F 11 0 6 inX11 rfl rfl (by decide) tw_fl_X11_93 rfl dX11_those_68 ?_
          exact R _ ((g, z1, r1, r2, c)) _ _ dX11_those_71 (by (try dsimp only); exact (⟨rfl, by omega, ka, ths_rkn hI60 hths hc (Or.inl (by omega)), hres⟩))
        · refine g_aload_n F 0 rfl dX11_those_31 ?_
          refine g_iload_n F 1 rfl dX11_those_32 ?_
          refine g_iload F 5 rfl dX11_those_33 ?_
          refine g_cVi F (wr := []) [] (c_X11_far E A ln pl td zi r1 r2 g bs z1 al pp pw ph n kd c ps L tN I q0 s (hK) (hZ) (by omega) (by omega)) (gi_V tw_ml_X11_86 tw_im_X11_far tw_se_X11_far tw_in_X11 tw_co_X11_far) 2 rfl (by decide) ⟨rfl, rfl, by decide, by decide, Nat.zero_le _, Nat.zero_le _⟩ 11 0 rfl rfl [0, 1, 2, 3, 4, 5, 6, 7, 8, 9, 10, 11, 12, 13] [] [0, 1, 2, 3, 4, 5, 6, 7, 8, 9, 10, 11, 12, 13] (fun u => [ob (A 0) 11 [.int (nI n), .int (nI kd), .ref (A 1), .ref (A 2), .ref (A 3), .ref (A 4), .int (nI c), .ref (A 5), .ref (A 6), .ref (A 7), .ref (A 8), .ref (A 9), .ref (A 10), .ref (A 11), .int ps, .ref (A 12), .ref (A 13)], ia E (A 1) 60 ln, ia E (A 2) 480 pl, ia E (A 3) 3600 td, za E (A 4) 60 zi, ia E (A 5) 60 r1, ia E (A 6) 60 r2, ia E (A 7) 81 u, ia E (A 8) 3 bs, za E (A 9) 60 z1, ia E (A 10) 3600 al, ia E (A 11) 60 pp, ia E (A 12) 60 pw, ia E (A 13) 60 ph]) rfl rfl (by decide) (fun _ => rfl) rfl (Nat.le_of_ble_eq_true rfl) dX11_those_35 (fun r_35 u hu_35 => ?_)
          revert hu_35; revert u; intro co_35 hu_35
          subst hu_35
          refine g_iload F 4 rfl dX11_those_38 ?_
          refine n_icmp_gt F 67 dX11_those_40 (by decide) (by have := ds_le (kd := kd) (a := q0) (b := s) hK.2.2.1 hK.2.2.2.1 hK.2.2.2.2.1 (by omega) (by omega); omega) (by omega) (fun c_40 => ?_) (fun c_40 => ?_)
          · refine g_aload_n F 0 rfl dX11_those_67 ?_
            refine g_get F 11 0 6 inX11 rfl rfl (by decide) tw_fl_X11_93 rfl dX11_those_68 ?_
            exact R _ ((co_35, z1, r1, r2, c)) _ _ dX11_those_71 (by (try dsimp only); exact (⟨rfl, by omega, ka, ths_rkn hI60 hths hc (Or.inr (fun t ht hf => by
                have e9 := hs4 t ht hf
                have e8 := hI60 t ht
                have e7 : dsN kd L pl tN q0 s * 60 + s ≤ dsN kd L pl tN q0 t * 60 + t := e9
                show r0 < dsN kd L pl tN q0 t
                omega)), hres⟩))
          · refine g_aload_n F 0 rfl dX11_those_43 ?_
            refine g_iload F 5 rfl dX11_those_44 ?_
            refine g_aload_n F 0 rfl dX11_those_46 ?_
            refine g_iload_n F 1 rfl dX11_those_47 ?_
            refine g_iload F 5 rfl dX11_those_48 ?_
            refine g_cVi F (wr := []) [.int (nI s), .ref (A 0)] (c_X11_far E A ln pl td zi r1 r2 co_35 bs z1 al pp pw ph n kd c ps L tN I q0 s (hK) (hZ) (by omega) (by omega)) (gi_V tw_ml_X11_86 tw_im_X11_far tw_se_X11_far tw_in_X11 tw_co_X11_far) 2 rfl (by decide) ⟨rfl, rfl, by decide, by decide, Nat.zero_le _, Nat.zero_le _⟩ 11 0 rfl rfl [0, 1, 2, 3, 4, 5, 6, 7, 8, 9, 10, 11, 12, 13] [] [0, 1, 2, 3, 4, 5, 6, 7, 8, 9, 10, 11, 12, 13] (fun u => [ob (A 0) 11 [.int (nI n), .int (nI kd), .ref (A 1), .ref (A 2), .ref (A 3), .ref (A 4), .int (nI c), .ref (A 5), .ref (A 6), .ref (A 7), .ref (A 8), .ref (A 9), .ref (A 10), .ref (A 11), .int ps, .ref (A 12), .ref (A 13)], ia E (A 1) 60 ln, ia E (A 2) 480 pl, ia E (A 3) 3600 td, za E (A 4) 60 zi, ia E (A 5) 60 r1, ia E (A 6) 60 r2, ia E (A 7) 81 u, ia E (A 8) 3 bs, za E (A 9) 60 z1, ia E (A 10) 3600 al, ia E (A 11) 60 pp, ia E (A 12) 60 pw, ia E (A 13) 60 ph]) rfl rfl (by decide) (fun _ => rfl) rfl (Nat.le_of_ble_eq_true rfl) dX11_those_50 (fun r_50 u hu_50 => ?_)
            revert hu_50; revert u; intro co_50 hu_50
            subst hu_50
            refine g_cVv F (wr := []) [] (c_X11_gives E A ln pl td zi r1 r2 co_50 bs z1 al pp pw ph n kd c ps L tN I s (nI (dsN kd L pl tN q0 s)) (hK) (hZ) (hs60) (by omega)) (gi_V tw_ml_X11_103 tw_im_X11_gives tw_se_X11_gives tw_in_X11 tw_co_X11_gives) 2 rfl (by decide) ⟨rfl, rfl, by decide, by decide, Nat.zero_le _, Nat.zero_le _⟩ 11 0 rfl rfl [0, 1, 2, 3, 4, 5, 6, 7, 8, 9, 10, 11, 12, 13] [] [0, 1, 2, 3, 4, 5, 6, 7, 8, 9, 10, 11, 12, 13] (fun u => [ob (A 0) 11 [.int (nI n), .int (nI kd), .ref (A 1), .ref (A 2), .ref (A 3), .ref (A 4), .int (nI (c + 1)), .ref (A 5), .ref (A 6), .ref (A 7), .ref (A 8), .ref (A 9), .ref (A 10), .ref (A 11), .int ps, .ref (A 12), .ref (A 13)], ia E (A 1) 60 ln, ia E (A 2) 480 pl, ia E (A 3) 3600 td, za E (A 4) 60 zi, ia E (A 5) 60 (upd r1 c (nI s)), ia E (A 6) 60 (upd r2 c (nI (dsN kd L pl tN q0 s))), ia E (A 7) 81 co_50, ia E (A 8) 3 bs, za E (A 9) 60 (upd z1 s (nI 1)), ia E (A 10) 3600 al, ia E (A 11) 60 pp, ia E (A 12) 60 pw, ia E (A 13) 60 ph]) rfl rfl (by decide) (fun _ => rfl) rfl (Nat.le_of_ble_eq_true rfl) dX11_those_53 (fun u hu_53 => ?_)
            refine g_aload_n F 0 rfl dX11_those_56 ?_
            refine g_iload_n F 1 rfl dX11_those_57 ?_
            refine g_iload_n F 3 rfl dX11_those_58 ?_
            refine g_cVi F (wr := []) [] (c_X11_next_n E A ln pl td zi (upd r1 c (nI s)) (upd r2 c (nI (dsN kd L pl tN q0 s))) co_50 bs (upd z1 s (nI 1)) al pp pw ph n kd (c + 1) ps L tN I q0 (setB T s) (hK) (hZ) (hq) (fun t ht => by
                unfold upd setB
                split
                · rfl
                · exact hT1 t ht)) (gi_V tw_ml_X11_99 tw_im_X11_next tw_se_X11_next tw_in_X11 tw_co_X11_next) 2 rfl (by decide) ⟨rfl, rfl, by decide, by decide, Nat.zero_le _, Nat.zero_le _⟩ 11 0 rfl rfl [0, 1, 2, 3, 4, 5, 6, 7, 8, 9, 10, 11, 12, 13] [] [0, 1, 2, 3, 4, 5, 6, 7, 8, 9, 10, 11, 12, 13] (fun u => [ob (A 0) 11 [.int (nI n), .int (nI kd), .ref (A 1), .ref (A 2), .ref (A 3), .ref (A 4), .int (nI (c + 1)), .ref (A 5), .ref (A 6), .ref (A 7), .ref (A 8), .ref (A 9), .ref (A 10), .ref (A 11), .int ps, .ref (A 12), .ref (A 13)], ia E (A 1) 60 ln, ia E (A 2) 480 pl, ia E (A 3) 3600 td, za E (A 4) 60 zi, ia E (A 5) 60 (upd r1 c (nI s)), ia E (A 6) 60 (upd r2 c (nI (dsN kd L pl tN q0 s))), ia E (A 7) 81 u, ia E (A 8) 3 bs, za E (A 9) 60 (upd z1 s (nI 1)), ia E (A 10) 3600 al, ia E (A 11) 60 pp, ia E (A 12) 60 pw, ia E (A 13) 60 ph]) rfl rfl (by decide) (fun _ => rfl) rfl (Nat.le_of_ble_eq_true rfl) dX11_those_59 (fun r_59 u hu_59 => ?_)
            revert hu_59; revert u; intro co_59 hu_59
            refine g_istore F 5 [(0, .ref (A 0)), (1, .int (nI q0)), (2, .int (nI m0)), (3, .int (nI 1)), (4, .int (nI r0)), (5, .int r_59)] [1, 2, 3, 4, 5, 0] dX11_those_62 (by decide) rfl ?_
            refine g_goto F 17 dX11_those_64 (by decide) ?_
            exact ih_17 (c + 1) r_59 (setB T s) co_59 (upd z1 s (nI 1)) (upd r1 c (nI s)) (upd r2 c (nI (dsN kd L pl tN q0 s))) (setN ka c ((fun t => dsN kd L pl tN q0 t * 60 + t) s)) (by omega) (fun t ht => by
                unfold upd setB
                split
                · rfl
                · exact hT1 t ht) (hu_59) (ths_step (fun t ht => by show (_ * 60 + t) % 60 = t; omega) hI60 hths hs2 hs3 c_40 hs4) (lt_s (fun i hi => by
                rw [pk_un (by omega), pk_un (by omega), setN_n (by omega)]
                exact hres i hi) (by
                rw [pk_us, pk_us, setN_s]
                have e9 : (fun t => dsN kd L pl tN q0 t * 60 + t) s % 60 = s := by
                  show (_ * 60 + s) % 60 = s
                  omega
                rw [e9]
                exact ⟨rfl, rfl⟩)) (by omega)
  exact lp_17 _ 0 r_12 (fun _ => false) co_12 zt_0 rf rg (fun _ => 0) (by omega) (hu_1) (hu_12) (ths_0) (fun i hi => absurd hi (Nat.not_lt_zero i)) (Nat.lt_succ_self _)

set_option maxHeartbeats 4000000 in
set_option maxRecDepth 100000 in
theorem c_X11_next_f (E : Ev) (A : Nat → Nat) (ln : Nat → Int32) (pl : Nat → Int32) (td : Nat → Int32) (zi : Nat → Int32) (rf : Nat → Int32) (rg : Nat → Int32) (co : Nat → Int32) (bs : Nat → Int32) (zt : Nat → Int32) (al : Nat → Int32) (pp : Nat → Int32) (pw : Nat → Int32) (ph : Nat → Int32) (n : Nat) (kd : Nat) (rk : Nat) (ps : Int32) (L : Nat → Nat) (tN : Nat → Nat) (I : Nat → Bool) (q0 : Nat) (T : Nat → Bool) (hK : MDK n kd L ln pl tN td) (hZ : ZI n zi I) (hq : q0 < n) (hT : ∀ t, t < 60 → zt t = bI (T t)) : CTi E yX11_next (wq yX11_next cX11_next 5 (some .int)) (rmk 3 75) [.ref (A 0), .int (nI q0), .int (nI 0)] [ob (A 0) 11 [.int (nI n), .int (nI kd), .ref (A 1), .ref (A 2), .ref (A 3), .ref (A 4), .int (nI rk), .ref (A 5), .ref (A 6), .ref (A 7), .ref (A 8), .ref (A 9), .ref (A 10), .ref (A 11), .int ps, .ref (A 12), .ref (A 13)], ia E (A 1) 60 ln, ia E (A 2) 480 pl, ia E (A 3) 3600 td, za E (A 4) 60 zi, ia E (A 5) 60 rf, ia E (A 6) 60 rg, ia E (A 7) 81 co, ia E (A 8) 3 bs, za E (A 9) 60 zt, ia E (A 10) 3600 al, ia E (A 11) 60 pp, ia E (A 12) 60 pw, ia E (A 13) 60 ph] (fun (r : Int32) (u : (Nat → Int32)) => NXT (fun t => (100000 - dsN kd L pl tN q0 t) * 60 + t) I T r) (fun (u : (Nat → Int32)) => [ob (A 0) 11 [.int (nI n), .int (nI kd), .ref (A 1), .ref (A 2), .ref (A 3), .ref (A 4), .int (nI rk), .ref (A 5), .ref (A 6), .ref (A 7), .ref (A 8), .ref (A 9), .ref (A 10), .ref (A 11), .int ps, .ref (A 12), .ref (A 13)], ia E (A 1) 60 ln, ia E (A 2) 480 pl, ia E (A 3) 3600 td, za E (A 4) 60 zi, ia E (A 5) 60 rf, ia E (A 6) 60 rg, ia E (A 7) 81 u, ia E (A 8) 3 bs, za E (A 9) 60 zt, ia E (A 10) 3600 al, ia E (A 11) 60 pp, ia E (A 12) 60 pw, ia E (A 13) 60 ph]) := by
  refine CTi.of (by decide) (Nat.le_of_ble_eq_true rfl) (fun X F R => ?_)
  refine g_lv [0, 1, 2] [(0, .ref (A 0)), (1, .int (nI q0)), (2, .int (nI 0))] rfl ?_
  have hn60 := hK.1
  refine g_iconst F (-1) (by decide) dX11_next_0 ?_
  refine g_istore_n F 3 [(0, .ref (A 0)), (1, .int (nI q0)), (2, .int (nI 0)), (3, .int (-1))] [1, 2, 3, 0] dX11_next_1 rfl (by decide) rfl ?_
  refine g_iconst F (nI 0) (by decide) dX11_next_2 ?_
  refine g_istore F 4 [(0, .ref (A 0)), (1, .int (nI q0)), (2, .int (nI 0)), (3, .int (-1)), (4, .int (nI 0))] [1, 2, 3, 4, 0] dX11_next_3 (by decide) rfl ?_
  have lp_5 : ∀ (n_5 : Nat) (i : Nat) (w : Int32) (g : Nat → Int32), (i ≤ n) → (NXP (fun t => (100000 - dsN kd L pl tN q0 t) * 60 + t) I T i w) → n - i < n_5 → GW E X 0 0 [ob (A 0) 11 [.int (nI n), .int (nI kd), .ref (A 1), .ref (A 2), .ref (A 3), .ref (A 4), .int (nI rk), .ref (A 5), .ref (A 6), .ref (A 7), .ref (A 8), .ref (A 9), .ref (A 10), .ref (A 11), .int ps, .ref (A 12), .ref (A 13)], ia E (A 1) 60 ln, ia E (A 2) 480 pl, ia E (A 3) 3600 td, za E (A 4) 60 zi, ia E (A 5) 60 rf, ia E (A 6) 60 rg, ia E (A 7) 81 g, ia E (A 8) 3 bs, za E (A 9) 60 zt, ia E (A 10) 3600 al, ia E (A 11) 60 pp, ia E (A 12) 60 pw, ia E (A 13) 60 ph] [(0, .ref (A 0)), (1, .int (nI q0)), (2, .int (nI 0)), (3, .int w), (4, .int (nI i))] 5 [] := by
    intro n_5
    induction n_5 with
    | zero => intro i w g hi hw hm_5; exact absurd hm_5 (Nat.not_lt_zero _)
    | succ n_5 ih_5 =>
      intro i w g hi hw hm_5
      refine g_iload F 4 rfl dX11_next_5 ?_
      refine g_aload_n F 0 rfl dX11_next_7 ?_
      refine g_get F 11 0 0 inX11 rfl rfl (by decide) tw_fl_X11_50 rfl dX11_next_8 ?_
      refine n_icmp_ge F 90 dX11_next_11 (by decide) (by omega) (by omega) (fun c_11 => ?_) (fun c_11 => ?_)
      · refine g_iload_n F 3 rfl dX11_next_90 ?_
        exact R _ g _ _ dX11_next_91 (nx_fin hZ (by rw [show n = i by omega]; exact hw))
      · refine g_aload_n F 0 rfl dX11_next_14 ?_
        refine g_get F 11 0 5 inX11 rfl rfl (by decide) tw_fl_X11_19 rfl dX11_next_15 ?_
        refine g_iload F 4 rfl dX11_next_18 ?_
        refine g_zald F 4 rfl (by omega) (by decide) dX11_next_20 ?_
        refine g_top (bI (I i)) (hZ.1 i (by omega)) ?_
        refine b_if_eq F 84 dX11_next_21 (by decide) (fun c_21 => ?_) (fun c_21 => ?_)
        · refine g_iinc F (nI (i + 1)) 4 4 [(0, .ref (A 0)), (1, .int (nI q0)), (2, .int (nI 0)), (3, .int w), (4, .int (nI (i + 1)))] [1, 2, 3, 4, 0] dX11_next_84 rfl (n_inc i) (by decide) rfl ?_
          refine g_goto F 5 dX11_next_87 (by decide) ?_
          exact ih_5 (i + 1) w g (by omega) (nx_skip hw (fun z => by rw [c_21] at z; cases z)) (by omega)
        · refine g_aload_n F 0 rfl dX11_next_24 ?_
          refine g_get F 11 0 11 inX11 rfl rfl (by decide) tw_fl_X11_35 rfl dX11_next_25 ?_
          refine g_iload F 4 rfl dX11_next_28 ?_
          refine g_zald F 9 rfl (by omega) (by decide) dX11_next_30 ?_
          refine g_top (bI (T i)) (hT i (by omega)) ?_
          refine b_if_eq F 37 dX11_next_31 (by decide) (fun c_31 => ?_) (fun c_31 => ?_)
          · refine g_iload_n F 3 rfl dX11_next_37 ?_
            refine g_iconst F (-1) (by decide) dX11_next_38 ?_
            refine g_icmp_eq F 81 dX11_next_39 (by decide) (fun c_39 => ?_) (fun c_39 => ?_)
            · refine g_iload F 4 rfl dX11_next_81 ?_
              refine g_istore_n F 3 [(0, .ref (A 0)), (1, .int (nI q0)), (2, .int (nI 0)), (3, .int (nI i)), (4, .int (nI i))] [1, 2, 3, 0, 4] dX11_next_83 rfl (by decide) rfl ?_
              refine g_iinc F (nI (i + 1)) 4 4 [(0, .ref (A 0)), (1, .int (nI q0)), (2, .int (nI 0)), (3, .int (nI i)), (4, .int (nI (i + 1)))] [1, 2, 3, 4, 0] dX11_next_84 rfl (n_inc i) (by decide) rfl ?_
              refine g_goto F 5 dX11_next_87 (by decide) ?_
              exact ih_5 (i + 1) (nI i) g (by omega) (nx_new hw c_39 c_21 c_31 (by omega)) (by omega)
            · obtain ⟨s, rfl, hs1, hs2, hs3, hs4⟩ := hw.resolve_left (fun z => c_39 z.1)
              refine g_iload_n F 2 rfl dX11_next_42 ?_
              refine g_top (0) (by decide) ?_
              refine g_if_eq F 65 dX11_next_43 (by decide) (fun _ => ?_) (fun h => absurd (by decide) h)
              refine g_aload_n F 0 rfl dX11_next_65 ?_
              refine g_iload_n F 1 rfl dX11_next_66 ?_
              refine g_iload F 4 rfl dX11_next_67 ?_
              refine g_cVi F (wr := []) [] (c_X11_far E A ln pl td zi rf rg g bs zt al pp pw ph n kd rk ps L tN I q0 i (hK) (hZ) (by omega) (by omega)) (gi_V tw_ml_X11_86 tw_im_X11_far tw_se_X11_far tw_in_X11 tw_co_X11_far) 2 rfl (by decide) ⟨rfl, rfl, by decide, by decide, Nat.zero_le _, Nat.zero_le _⟩ 11 0 rfl rfl [0, 1, 2, 3, 4, 5, 6, 7, 8, 9, 10, 11, 12, 13] [] [0, 1, 2, 3, 4, 5, 6, 7, 8, 9, 10, 11, 12, 13] (fun u => [ob (A 0) 11 [.int (nI n), .int (nI kd), .ref (A 1), .ref (A 2), .ref (A 3), .ref (A 4), .int (nI rk), .ref (A 5), .ref (A 6), .ref (A 7), .ref (A 8), .ref (A 9), .ref (A 10), .ref (A 11), .int ps, .ref (A 12), .ref (A 13)], ia E (A 1) 60 ln, ia E (A 2) 480 pl, ia E (A 3) 3600 td, za E (A 4) 60 zi, ia E (A 5) 60 rf, ia E (A 6) 60 rg, ia E (A 7) 81 u, ia E (A 8) 3 bs, za E (A 9) 60 zt, ia E (A 10) 3600 al, ia E (A 11) 60 pp, ia E (A 12) 60 pw, ia E (A 13) 60 ph]) rfl rfl (by decide) (fun _ => rfl) rfl (Nat.le_of_ble_eq_true rfl) dX11_next_69 (fun r_69 u hu_69 => ?_)
              revert hu_69; revert u; intro co_69 hu_69
              subst hu_69
              refine g_aload_n F 0 rfl dX11_next_72 ?_
              refine g_iload_n F 1 rfl dX11_next_73 ?_
              refine g_iload_n F 3 rfl dX11_next_74 ?_
              refine g_cVi F (wr := []) [.int (nI (dsN kd L pl tN q0 i))] (c_X11_far E A ln pl td zi rf rg co_69 bs zt al pp pw ph n kd rk ps L tN I q0 s (hK) (hZ) (by omega) (by omega)) (gi_V tw_ml_X11_86 tw_im_X11_far tw_se_X11_far tw_in_X11 tw_co_X11_far) 2 rfl (by decide) ⟨rfl, rfl, by decide, by decide, Nat.zero_le _, Nat.zero_le _⟩ 11 0 rfl rfl [0, 1, 2, 3, 4, 5, 6, 7, 8, 9, 10, 11, 12, 13] [] [0, 1, 2, 3, 4, 5, 6, 7, 8, 9, 10, 11, 12, 13] (fun u => [ob (A 0) 11 [.int (nI n), .int (nI kd), .ref (A 1), .ref (A 2), .ref (A 3), .ref (A 4), .int (nI rk), .ref (A 5), .ref (A 6), .ref (A 7), .ref (A 8), .ref (A 9), .ref (A 10), .ref (A 11), .int ps, .ref (A 12), .ref (A 13)], ia E (A 1) 60 ln, ia E (A 2) 480 pl, ia E (A 3) 3600 td, za E (A 4) 60 zi, ia E (A 5) 60 rf, ia E (A 6) 60 rg, ia E (A 7) 81 u, ia E (A 8) 3 bs, za E (A 9) 60 zt, ia E (A 10) 3600 al, ia E (A 11) 60 pp, ia E (A 12) 60 pw, ia E (A 13) 60 ph]) rfl rfl (by decide) (fun _ => rfl) rfl (Nat.le_of_ble_eq_true rfl) dX11_next_75 (fun r_75 u hu_75 => ?_)
              revert hu_75; revert u; intro co_75 hu_75
              subst hu_75
              refine n_icmp_le F 84 dX11_next_78 (by decide) (by have := ds_le (kd := kd) (a := q0) (b := i) hK.2.2.1 hK.2.2.2.1 hK.2.2.2.2.1 (by omega) (by omega); omega) (by have := ds_le (kd := kd) (a := q0) (b := s) hK.2.2.1 hK.2.2.2.1 hK.2.2.2.2.1 (by omega) (by omega); omega) (fun c_78 => ?_) (fun c_78 => ?_)
              · refine g_iinc F (nI (i + 1)) 4 4 [(0, .ref (A 0)), (1, .int (nI q0)), (2, .int (nI 0)), (3, .int (nI s)), (4, .int (nI (i + 1)))] [1, 2, 3, 4, 0] dX11_next_84 rfl (n_inc i) (by decide) rfl ?_
                refine g_goto F 5 dX11_next_87 (by decide) ?_
                exact ih_5 (i + 1) (nI s) co_75 (by omega) (nx_keep hs1 hs2 hs3 hs4 (by
                    have d1 := ds_le (kd := kd) (a := q0) (b := s) hK.2.2.1 hK.2.2.2.1 hK.2.2.2.2.1 (by omega) (by omega)
                    have d2 := ds_le (kd := kd) (a := q0) (b := i) hK.2.2.1 hK.2.2.2.1 hK.2.2.2.2.1 (by omega) (by omega)
                    show _ * 60 + _ ≤ _ * 60 + _
                    omega)) (by omega)
              · refine g_iload F 4 rfl dX11_next_81 ?_
                refine g_istore_n F 3 [(0, .ref (A 0)), (1, .int (nI q0)), (2, .int (nI 0)), (3, .int (nI i)), (4, .int (nI i))] [1, 2, 3, 0, 4] dX11_next_83 rfl (by decide) rfl ?_
                refine g_iinc F (nI (i + 1)) 4 4 [(0, .ref (A 0)), (1, .int (nI q0)), (2, .int (nI 0)), (3, .int (nI i)), (4, .int (nI (i + 1)))] [1, 2, 3, 4, 0] dX11_next_84 rfl (n_inc i) (by decide) rfl ?_
                refine g_goto F 5 dX11_next_87 (by decide) ?_
                exact ih_5 (i + 1) (nI i) co_75 (by omega) (nx_take c_21 c_31 hs4 (by
                    have d1 := ds_le (kd := kd) (a := q0) (b := s) hK.2.2.1 hK.2.2.2.1 hK.2.2.2.2.1 (by omega) (by omega)
                    have d2 := ds_le (kd := kd) (a := q0) (b := i) hK.2.2.1 hK.2.2.2.1 hK.2.2.2.2.1 (by omega) (by omega)
                    show _ * 60 + _ ≤ _ * 60 + _
                    omega)) (by omega)
          · refine g_goto F 84 dX11_next_34 (by decide) ?_
            refine g_iinc F (nI (i + 1)) 4 4 [(0, .ref (A 0)), (1, .int (nI q0)), (2, .int (nI 0)), (3, .int w), (4, .int (nI (i + 1)))] [1, 2, 3, 4, 0] dX11_next_84 rfl (n_inc i) (by decide) rfl ?_
            refine g_goto F 5 dX11_next_87 (by decide) ?_
            exact ih_5 (i + 1) w g (by omega) (nx_skip hw (fun _ => c_31)) (by omega)
  exact lp_5 _ 0 (-1) co (by omega) (Or.inl ⟨rfl, fun t h => absurd h (Nat.not_lt_zero t)⟩) (Nat.lt_succ_self _)

set_option maxHeartbeats 4000000 in
set_option maxRecDepth 100000 in
theorem c_X11_those_f (E : Ev) (A : Nat → Nat) (ln : Nat → Int32) (pl : Nat → Int32) (td : Nat → Int32) (zi : Nat → Int32) (rf : Nat → Int32) (rg : Nat → Int32) (co : Nat → Int32) (bs : Nat → Int32) (zt : Nat → Int32) (al : Nat → Int32) (pp : Nat → Int32) (pw : Nat → Int32) (ph : Nat → Int32) (n : Nat) (kd : Nat) (rk : Nat) (ps : Int32) (L : Nat → Nat) (tN : Nat → Nat) (I : Nat → Bool) (q0 : Nat) (m0 : Nat) (r0 : Nat) (hK : MDK n kd L ln pl tN td) (hZ : ZI n zi I) (hq : q0 < n) (hm0 : m0 ≤ 60) (hr0 : r0 < 2 ^ 31) (hrb : 100000 ≤ r0) : CTi E yX11_those (wq yX11_those cX11_those 6 (some .int)) (rmk 4 99) [.ref (A 0), .int (nI q0), .int (nI m0), .int (nI 0), .int (nI r0)] [ob (A 0) 11 [.int (nI n), .int (nI kd), .ref (A 1), .ref (A 2), .ref (A 3), .ref (A 4), .int (nI rk), .ref (A 5), .ref (A 6), .ref (A 7), .ref (A 8), .ref (A 9), .ref (A 10), .ref (A 11), .int ps, .ref (A 12), .ref (A 13)], ia E (A 1) 60 ln, ia E (A 2) 480 pl, ia E (A 3) 3600 td, za E (A 4) 60 zi, ia E (A 5) 60 rf, ia E (A 6) 60 rg, ia E (A 7) 81 co, ia E (A 8) 3 bs, za E (A 9) 60 zt, ia E (A 10) 3600 al, ia E (A 11) 60 pp, ia E (A 12) 60 pw, ia E (A 13) 60 ph] (fun (r : Int32) (u : (Nat → Int32) × (Nat → Int32) × (Nat → Int32) × (Nat → Int32) × Nat) => r = nI u.2.2.2.2 ∧ u.2.2.2.2 ≤ 60 ∧ ∃ ka, RKN (fun z => ∃ t, I t = true ∧ dsN kd L pl tN q0 t ≤ r0 ∧ z = (fun t => (100000 - dsN kd L pl tN q0 t) * 60 + t) t) m0 u.2.2.2.2 ka ∧ ∀ i, i < u.2.2.2.2 → u.2.2.1 i = nI (ka i % 60) ∧ u.2.2.2.1 i = nI (dsN kd L pl tN q0 (ka i % 60))) (fun (u : (Nat → Int32) × (Nat → Int32) × (Nat → Int32) × (Nat → Int32) × Nat) => [ob (A 0) 11 [.int (nI n), .int (nI kd), .ref (A 1), .ref (A 2), .ref (A 3), .ref (A 4), .int (nI u.2.2.2.2), .ref (A 5), .ref (A 6), .ref (A 7), .ref (A 8), .ref (A 9), .ref (A 10), .ref (A 11), .int ps, .ref (A 12), .ref (A 13)], ia E (A 1) 60 ln, ia E (A 2) 480 pl, ia E (A 3) 3600 td, za E (A 4) 60 zi, ia E (A 5) 60 u.2.2.1, ia E (A 6) 60 u.2.2.2.1, ia E (A 7) 81 u.1, ia E (A 8) 3 bs, za E (A 9) 60 u.2.1, ia E (A 10) 3600 al, ia E (A 11) 60 pp, ia E (A 12) 60 pw, ia E (A 13) 60 ph]) := by
  refine CTi.of (by decide) (Nat.le_of_ble_eq_true rfl) (fun X F R => ?_)
  refine g_lv [0, 1, 2, 3, 4] [(0, .ref (A 0)), (1, .int (nI q0)), (2, .int (nI m0)), (3, .int (nI 0)), (4, .int (nI r0))] rfl ?_
  have hn60 := hK.1
  have hI60 : ∀ t, I t = true → t < 60 := fun t ht => Nat.lt_of_lt_of_le (hZ.2 t ht) hn60
  refine g_aload_n F 0 rfl dX11_those_0 ?_
  refine g_cVv F (wr := []) [] (c_X11_takesNone E A ln pl td zi rf rg co bs zt al pp pw ph n kd rk ps L tN I (hK) (hZ)) (gi_V tw_ml_X11_96 tw_im_X11_takesNone tw_se_X11_takesNone tw_in_X11 tw_co_X11_takesNone) 0 rfl (by decide) ⟨rfl, rfl, by decide, by decide, Nat.zero_le _, Nat.zero_le _⟩ 11 0 rfl rfl [0, 1, 2, 3, 4, 5, 6, 7, 8, 9, 10, 11, 12, 13] [] [0, 1, 2, 3, 4, 5, 6, 7, 8, 9, 10, 11, 12, 13] (fun u => [ob (A 0) 11 [.int (nI n), .int (nI kd), .ref (A 1), .ref (A 2), .ref (A 3), .ref (A 4), .int (nI rk), .ref (A 5), .ref (A 6), .ref (A 7), .ref (A 8), .ref (A 9), .ref (A 10), .ref (A 11), .int ps, .ref (A 12), .ref (A 13)], ia E (A 1) 60 ln, ia E (A 2) 480 pl, ia E (A 3) 3600 td, za E (A 4) 60 zi, ia E (A 5) 60 rf, ia E (A 6) 60 rg, ia E (A 7) 81 co, ia E (A 8) 3 bs, za E (A 9) 60 u, ia E (A 10) 3600 al, ia E (A 11) 60 pp, ia E (A 12) 60 pw, ia E (A 13) 60 ph]) rfl rfl (by decide) (fun _ => rfl) rfl (Nat.le_of_ble_eq_true rfl) dX11_those_1 (fun u hu_1 => ?_)
  revert hu_1; revert u; intro zt_0 hu_1
  refine g_aload_n F 0 rfl dX11_those_4 ?_
  refine g_iconst F (nI 0) (by decide) dX11_those_5 ?_
  refine g_put F 11 0 6 [ob (A 0) 11 [.int (nI n), .int (nI kd), .ref (A 1), .ref (A 2), .ref (A 3), .ref (A 4), .int (nI 0), .ref (A 5), .ref (A 6), .ref (A 7), .ref (A 8), .ref (A 9), .ref (A 10), .ref (A 11), .int ps, .ref (A 12), .ref (A 13)], ia E (A 1) 60 ln, ia E (A 2) 480 pl, ia E (A 3) 3600 td, za E (A 4) 60 zi, ia E (A 5) 60 rf, ia E (A 6) 60 rg, ia E (A 7) 81 co, ia E (A 8) 3 bs, za E (A 9) 60 zt_0, ia E (A 10) 3600 al, ia E (A 11) 60 pp, ia E (A 12) 60 pw, ia E (A 13) 60 ph] inX11 tyX11_ok nmX11 rfl rfl (by decide) tw_fl_X11_93 rfl rfl rfl rfl (Nat.le_of_ble_eq_true rfl) rfl dX11_those_6 ?_
  refine g_aload_n F 0 rfl dX11_those_9 ?_
  refine g_iload_n F 1 rfl dX11_those_10 ?_
  refine g_iload_n F 3 rfl dX11_those_11 ?_
  refine g_cVi F (wr := []) [] (c_X11_next_f E A ln pl td zi rf rg co bs zt_0 al pp pw ph n kd 0 ps L tN I q0 (fun _ => false) (hK) (hZ) (hq) (hu_1)) (gi_V tw_ml_X11_99 tw_im_X11_next tw_se_X11_next tw_in_X11 tw_co_X11_next) 2 rfl (by decide) ⟨rfl, rfl, by decide, by decide, Nat.zero_le _, Nat.zero_le _⟩ 11 0 rfl rfl [0, 1, 2, 3, 4, 5, 6, 7, 8, 9, 10, 11, 12, 13] [] [0, 1, 2, 3, 4, 5, 6, 7, 8, 9, 10, 11, 12, 13] (fun u => [ob (A 0) 11 [.int (nI n), .int (nI kd), .ref (A 1), .ref (A 2), .ref (A 3), .ref (A 4), .int (nI 0), .ref (A 5), .ref (A 6), .ref (A 7), .ref (A 8), .ref (A 9), .ref (A 10), .ref (A 11), .int ps, .ref (A 12), .ref (A 13)], ia E (A 1) 60 ln, ia E (A 2) 480 pl, ia E (A 3) 3600 td, za E (A 4) 60 zi, ia E (A 5) 60 rf, ia E (A 6) 60 rg, ia E (A 7) 81 u, ia E (A 8) 3 bs, za E (A 9) 60 zt_0, ia E (A 10) 3600 al, ia E (A 11) 60 pp, ia E (A 12) 60 pw, ia E (A 13) 60 ph]) rfl rfl (by decide) (fun _ => rfl) rfl (Nat.le_of_ble_eq_true rfl) dX11_those_12 (fun r_12 u hu_12 => ?_)
  revert hu_12; revert u; intro co_12 hu_12
  refine g_istore F 5 [(0, .ref (A 0)), (1, .int (nI q0)), (2, .int (nI m0)), (3, .int (nI 0)), (4, .int (nI r0)), (5, .int r_12)] [1, 2, 3, 4, 5, 0] dX11_those_15 (by decide) rfl ?_
  have lp_17 : ∀ (n_17 : Nat) (c : Nat) (w : Int32) (T : Nat → Bool) (g : Nat → Int32) (z1 : Nat → Int32) (r1 : Nat → Int32) (r2 : Nat → Int32) (ka : Nat → Nat), (c ≤ m0) → (∀ t, t < 60 → z1 t = bI (T t)) → (NXT (fun t => (100000 - dsN kd L pl tN q0 t) * 60 + t) I T w) → (THS (fun t => dsN kd L pl tN q0 t) (fun t => (100000 - dsN kd L pl tN q0 t) * 60 + t) I T r0 c ka) → (∀ i, i < c → r1 i = nI (ka i % 60) ∧ r2 i = nI (dsN kd L pl tN q0 (ka i % 60))) → m0 - c < n_17 → GW E X 0 0 [ob (A 0) 11 [.int (nI n), .int (nI kd), .ref (A 1), .ref (A 2), .ref (A 3), .ref (A 4), .int (nI c), .ref (A 5), .ref (A 6), .ref (A 7), .ref (A 8), .ref (A 9), .ref (A 10), .ref (A 11), .int ps, .ref (A 12), .ref (A 13)], ia E (A 1) 60 ln, ia E (A 2) 480 pl, ia E (A 3) 3600 td, za E (A 4) 60 zi, ia E (A 5) 60 r1, ia E (A 6) 60 r2, ia E (A 7) 81 g, ia E (A 8) 3 bs, za E (A 9) 60 z1, ia E (A 10) 3600 al, ia E (A 11) 60 pp, ia E (A 12) 60 pw, ia E (A 13) 60 ph] [(0, .ref (A 0)), (1, .int (nI q0)), (2, .int (nI m0)), (3, .int (nI 0)), (4, .int (nI r0)), (5, .int w)] 17 [] := by
    intro n_17
    induction n_17 with
    | zero => intro c w T g z1 r1 r2 ka hc hT1 hnx hths hres hm_17; exact absurd hm_17 (Nat.not_lt_zero _)
    | succ n_17 ih_17 =>
      intro c w T g z1 r1 r2 ka hc hT1 hnx hths hres hm_17
      refine g_iload F 5 rfl dX11_those_17 ?_
      refine g_iconst F (-1) (by decide) dX11_those_19 ?_
      refine g_icmp_eq F 67 dX11_those_20 (by decide) (fun c_20 => ?_) (fun c_20 => ?_)
      · refine g_aload_n F 0 rfl dX11_those_67 ?_
        refine g_get F 11 0 6 inX11 rfl rfl (by decide) tw_fl_X11_93 rfl dX11_those_68 ?_
        exact R _ ((g, z1, r1, r2, c)) _ _ dX11_those_71 (by (try dsimp only); exact (⟨rfl, by omega, ka, ths_rkn hI60 hths hc (Or.inr (fun t ht hf => by
            rcases hnx with ⟨-, z⟩ | ⟨s, e9, z9⟩
            · rw [z t ht] at hf; cases hf
            · rw [e9] at c_20
              exact absurd c_20 (nI_m1 (by have := hI60 s z9.1; omega)))), hres⟩))
      · obtain ⟨s, rfl, hs2, hs3, hs4⟩ := hnx.resolve_left (fun z => c_20 z.1)
        have hs60 := hI60 s hs2
        refine g_aload_n F 0 rfl dX11_those_23 ?_
        refine g_get F 11 0 6 inX11 rfl rfl (by decide) tw_fl_X11_93 rfl dX11_those_24 ?_
        refine g_iload_n F 2 rfl dX11_those_27 ?_
        refine n_icmp_ge F 67 dX11_those_28 (by decide) (by omega) (by omega) (fun c_28 => ?_) (fun c_28 => ?_)
        · refine g_aload_n F 0 rfl dX11_those_67 ?_
          refine g_get F 11 0 6 inX11 rfl rfl (by decide) tw_fl_X11_93 rfl dX11_those_68 ?_
          exact R _ ((g, z1, r1, r2, c)) _ _ dX11_those_71 (by (try dsimp only); exact (⟨rfl, by omega, ka, ths_rkn hI60 hths hc (Or.inl (by omega)), hres⟩))
        · refine g_aload_n F 0 rfl dX11_those_31 ?_
          refine g_iload_n F 1 rfl dX11_those_32 ?_
          refine g_iload F 5 rfl dX11_those_33 ?_
          refine g_cVi F (wr := []) [] (c_X11_far E A ln pl td zi r1 r2 g bs z1 al pp pw ph n kd c ps L tN I q0 s (hK) (hZ) (by omega) (by omega)) (gi_V tw_ml_X11_86 tw_im_X11_far tw_se_X11_far tw_in_X11 tw_co_X11_far) 2 rfl (by decide) ⟨rfl, rfl, by decide, by decide, Nat.zero_le _, Nat.zero_le _⟩ 11 0 rfl rfl [0, 1, 2, 3, 4, 5, 6, 7, 8, 9, 10, 11, 12, 13] [] [0, 1, 2, 3, 4, 5, 6, 7, 8, 9, 10, 11, 12, 13] (fun u => [ob (A 0) 11 [.int (nI n), .int (nI kd), .ref (A 1), .ref (A 2), .ref (A 3), .ref (A 4), .int (nI c), .ref (A 5), .ref (A 6), .ref (A 7), .ref (A 8), .ref (A 9), .ref (A 10), .ref (A 11), .int ps, .ref (A 12), .ref (A 13)], ia E (A 1) 60 ln, ia E (A 2) 480 pl, ia E (A 3) 3600 td, za E (A 4) 60 zi, ia E (A 5) 60 r1, ia E (A 6) 60 r2, ia E (A 7) 81 u, ia E (A 8) 3 bs, za E (A 9) 60 z1, ia E (A 10) 3600 al, ia E (A 11) 60 pp, ia E (A 12) 60 pw, ia E (A 13) 60 ph]) rfl rfl (by decide) (fun _ => rfl) rfl (Nat.le_of_ble_eq_true rfl) dX11_those_35 (fun r_35 u hu_35 => ?_)
          revert hu_35; revert u; intro co_35 hu_35
          subst hu_35
          refine g_iload F 4 rfl dX11_those_38 ?_
          refine n_icmp_gt F 67 dX11_those_40 (by decide) (by have := ds_le (kd := kd) (a := q0) (b := s) hK.2.2.1 hK.2.2.2.1 hK.2.2.2.2.1 (by omega) (by omega); omega) (by omega) (fun c_40 => ?_) (fun c_40 => ?_)
          · refine g_aload_n F 0 rfl dX11_those_67 ?_
            refine g_get F 11 0 6 inX11 rfl rfl (by decide) tw_fl_X11_93 rfl dX11_those_68 ?_
            exact R _ ((co_35, z1, r1, r2, c)) _ _ dX11_those_71 (by (try dsimp only); exact (⟨rfl, by omega, ka, ths_rkn hI60 hths hc (by
                have := ds_le (kd := kd) (a := q0) (b := s) hK.2.2.1 hK.2.2.2.1 hK.2.2.2.2.1 (by omega) (by omega)
                omega), hres⟩))
          · refine g_aload_n F 0 rfl dX11_those_43 ?_
            refine g_iload F 5 rfl dX11_those_44 ?_
            refine g_aload_n F 0 rfl dX11_those_46 ?_
            refine g_iload_n F 1 rfl dX11_those_47 ?_
            refine g_iload F 5 rfl dX11_those_48 ?_
            refine g_cVi F (wr := []) [.int (nI s), .ref (A 0)] (c_X11_far E A ln pl td zi r1 r2 co_35 bs z1 al pp pw ph n kd c ps L tN I q0 s (hK) (hZ) (by omega) (by omega)) (gi_V tw_ml_X11_86 tw_im_X11_far tw_se_X11_far tw_in_X11 tw_co_X11_far) 2 rfl (by decide) ⟨rfl, rfl, by decide, by decide, Nat.zero_le _, Nat.zero_le _⟩ 11 0 rfl rfl [0, 1, 2, 3, 4, 5, 6, 7, 8, 9, 10, 11, 12, 13] [] [0, 1, 2, 3, 4, 5, 6, 7, 8, 9, 10, 11, 12, 13] (fun u => [ob (A 0) 11 [.int (nI n), .int (nI kd), .ref (A 1), .ref (A 2), .ref (A 3), .ref (A 4), .int (nI c), .ref (A 5), .ref (A 6), .ref (A 7), .ref (A 8), .ref (A 9), .ref (A 10), .ref (A 11), .int ps, .ref (A 12), .ref (A 13)], ia E (A 1) 60 ln, ia E (A 2) 480 pl, ia E (A 3) 3600 td, za E (A 4) 60 zi, ia E (A 5) 60 r1, ia E (A 6) 60 r2, ia E (A 7) 81 u, ia E (A 8) 3 bs, za E (A 9) 60 z1, ia E (A 10) 3600 al, ia E (A 11) 60 pp, ia E (A 12) 60 pw, ia E (A 13) 60 ph]) rfl rfl (by decide) (fun _ => rfl) rfl (Nat.le_of_ble_eq_true rfl) dX11_those_50 (fun r_50 u hu_50 => ?_)
            revert hu_50; revert u; intro co_50 hu_50
            subst hu_50
            refine g_cVv F (wr := []) [] (c_X11_gives E A ln pl td zi r1 r2 co_50 bs z1 al pp pw ph n kd c ps L tN I s (nI (dsN kd L pl tN q0 s)) (hK) (hZ) (hs60) (by omega)) (gi_V tw_ml_X11_103 tw_im_X11_gives tw_se_X11_gives tw_in_X11 tw_co_X11_gives) 2 rfl (by decide) ⟨rfl, rfl, by decide, by decide, Nat.zero_le _, Nat.zero_le _⟩ 11 0 rfl rfl [0, 1, 2, 3, 4, 5, 6, 7, 8, 9, 10, 11, 12, 13] [] [0, 1, 2, 3, 4, 5, 6, 7, 8, 9, 10, 11, 12, 13] (fun u => [ob (A 0) 11 [.int (nI n), .int (nI kd), .ref (A 1), .ref (A 2), .ref (A 3), .ref (A 4), .int (nI (c + 1)), .ref (A 5), .ref (A 6), .ref (A 7), .ref (A 8), .ref (A 9), .ref (A 10), .ref (A 11), .int ps, .ref (A 12), .ref (A 13)], ia E (A 1) 60 ln, ia E (A 2) 480 pl, ia E (A 3) 3600 td, za E (A 4) 60 zi, ia E (A 5) 60 (upd r1 c (nI s)), ia E (A 6) 60 (upd r2 c (nI (dsN kd L pl tN q0 s))), ia E (A 7) 81 co_50, ia E (A 8) 3 bs, za E (A 9) 60 (upd z1 s (nI 1)), ia E (A 10) 3600 al, ia E (A 11) 60 pp, ia E (A 12) 60 pw, ia E (A 13) 60 ph]) rfl rfl (by decide) (fun _ => rfl) rfl (Nat.le_of_ble_eq_true rfl) dX11_those_53 (fun u hu_53 => ?_)
            refine g_aload_n F 0 rfl dX11_those_56 ?_
            refine g_iload_n F 1 rfl dX11_those_57 ?_
            refine g_iload_n F 3 rfl dX11_those_58 ?_
            refine g_cVi F (wr := []) [] (c_X11_next_f E A ln pl td zi (upd r1 c (nI s)) (upd r2 c (nI (dsN kd L pl tN q0 s))) co_50 bs (upd z1 s (nI 1)) al pp pw ph n kd (c + 1) ps L tN I q0 (setB T s) (hK) (hZ) (hq) (fun t ht => by
                unfold upd setB
                split
                · rfl
                · exact hT1 t ht)) (gi_V tw_ml_X11_99 tw_im_X11_next tw_se_X11_next tw_in_X11 tw_co_X11_next) 2 rfl (by decide) ⟨rfl, rfl, by decide, by decide, Nat.zero_le _, Nat.zero_le _⟩ 11 0 rfl rfl [0, 1, 2, 3, 4, 5, 6, 7, 8, 9, 10, 11, 12, 13] [] [0, 1, 2, 3, 4, 5, 6, 7, 8, 9, 10, 11, 12, 13] (fun u => [ob (A 0) 11 [.int (nI n), .int (nI kd), .ref (A 1), .ref (A 2), .ref (A 3), .ref (A 4), .int (nI (c + 1)), .ref (A 5), .ref (A 6), .ref (A 7), .ref (A 8), .ref (A 9), .ref (A 10), .ref (A 11), .int ps, .ref (A 12), .ref (A 13)], ia E (A 1) 60 ln, ia E (A 2) 480 pl, ia E (A 3) 3600 td, za E (A 4) 60 zi, ia E (A 5) 60 (upd r1 c (nI s)), ia E (A 6) 60 (upd r2 c (nI (dsN kd L pl tN q0 s))), ia E (A 7) 81 u, ia E (A 8) 3 bs, za E (A 9) 60 (upd z1 s (nI 1)), ia E (A 10) 3600 al, ia E (A 11) 60 pp, ia E (A 12) 60 pw, ia E (A 13) 60 ph]) rfl rfl (by decide) (fun _ => rfl) rfl (Nat.le_of_ble_eq_true rfl) dX11_those_59 (fun r_59 u hu_59 => ?_)
            revert hu_59; revert u; intro co_59 hu_59
            refine g_istore F 5 [(0, .ref (A 0)), (1, .int (nI q0)), (2, .int (nI m0)), (3, .int (nI 0)), (4, .int (nI r0)), (5, .int r_59)] [1, 2, 3, 4, 5, 0] dX11_those_62 (by decide) rfl ?_
            refine g_goto F 17 dX11_those_64 (by decide) ?_
            exact ih_17 (c + 1) r_59 (setB T s) co_59 (upd z1 s (nI 1)) (upd r1 c (nI s)) (upd r2 c (nI (dsN kd L pl tN q0 s))) (setN ka c ((fun t => (100000 - dsN kd L pl tN q0 t) * 60 + t) s)) (by omega) (fun t ht => by
                unfold upd setB
                split
                · rfl
                · exact hT1 t ht) (hu_59) (ths_step (fun t ht => by show (_ * 60 + t) % 60 = t; omega) hI60 hths hs2 hs3 c_40 hs4) (lt_s (fun i hi => by
                rw [pk_un (by omega), pk_un (by omega), setN_n (by omega)]
                exact hres i hi) (by
                rw [pk_us, pk_us, setN_s]
                have e9 : (fun t => (100000 - dsN kd L pl tN q0 t) * 60 + t) s % 60 = s := by
                  show (_ * 60 + s) % 60 = s
                  omega
                rw [e9]
                exact ⟨rfl, rfl⟩)) (by omega)
  exact lp_17 _ 0 r_12 (fun _ => false) co_12 zt_0 rf rg (fun _ => 0) (by omega) (hu_1) (hu_12) (ths_0) (fun i hi => absurd hi (Nat.not_lt_zero i)) (Nat.lt_succ_self _)

set_option maxHeartbeats 4000000 in
set_option maxRecDepth 100000 in
theorem c_X11_nearest (E : Ev) (A : Nat → Nat) (ln : Nat → Int32) (pl : Nat → Int32) (td : Nat → Int32) (zi : Nat → Int32) (rf : Nat → Int32) (rg : Nat → Int32) (co : Nat → Int32) (bs : Nat → Int32) (zt : Nat → Int32) (al : Nat → Int32) (pp : Nat → Int32) (pw : Nat → Int32) (ph : Nat → Int32) (n : Nat) (kd : Nat) (rk : Nat) (ps : Int32) (L : Nat → Nat) (tN : Nat → Nat) (I : Nat → Bool) (rt : Nat → Nat) (ra : Nat → Nat) (x : Int32) (y : Int32) (hK : MDK n kd L ln pl tN td) (hZ : ZI n zi I) (hR : NBR rk rf rg rt ra) : CTi E yX11_nearest (wq yX11_nearest cX11_nearest 3 (some .int)) (rmk 5 124) [.ref (A 0), .int x, .int y] [ob (A 0) 11 [.int (nI n), .int (nI kd), .ref (A 1), .ref (A 2), .ref (A 3), .ref (A 4), .int (nI rk), .ref (A 5), .ref (A 6), .ref (A 7), .ref (A 8), .ref (A 9), .ref (A 10), .ref (A 11), .int ps, .ref (A 12), .ref (A 13)], ia E (A 1) 60 ln, ia E (A 2) 480 pl, ia E (A 3) 3600 td, za E (A 4) 60 zi, ia E (A 5) 60 rf, ia E (A 6) 60 rg, ia E (A 7) 81 co, ia E (A 8) 3 bs, za E (A 9) 60 zt, ia E (A 10) 3600 al, ia E (A 11) 60 pp, ia E (A 12) 60 pw, ia E (A 13) 60 ph] (fun (r : Int32) (u : (Nat → Int32) × (Nat → Int32) × (Nat → Int32) × (Nat → Int32) × (Nat → Int32) × Nat) => (∃ q0 g0, q0 < n ∧ x = nI q0 ∧ (1 ≤ g0 ∧ g0 ≤ 60 ∧ y = nI g0) ∧ LWK kd tN n ∧ ∃ ka, RKN (fun z0 => ∃ t0, I t0 = true ∧ dsN kd L pl tN q0 t0 ≤ 100000 ∧ z0 = dsN kd L pl tN q0 t0 * 60 + t0) g0 u.2.2.2.2.2 ka ∧ r = nI u.2.2.2.2.2 ∧ u.2.2.2.2.2 ≤ 60 ∧ ∀ i, i < u.2.2.2.2.2 → u.2.2.2.1 i = nI (ka i % 60) ∧ u.2.2.2.2.1 i = nI (dsN kd L pl tN q0 (ka i % 60))) ∨ ((∀ q0 g0, q0 < n → x = nI q0 → (1 ≤ g0 ∧ g0 ≤ 60 ∧ y = nI g0) → ¬ LWK kd tN n) ∧ r = -1 ∧ u.2.2.2.1 = rf ∧ u.2.2.2.2.1 = rg ∧ u.2.2.2.2.2 = rk)) (fun (u : (Nat → Int32) × (Nat → Int32) × (Nat → Int32) × (Nat → Int32) × (Nat → Int32) × Nat) => [ob (A 0) 11 [.int (nI n), .int (nI kd), .ref (A 1), .ref (A 2), .ref (A 3), .ref (A 4), .int (nI u.2.2.2.2.2), .ref (A 5), .ref (A 6), .ref (A 7), .ref (A 8), .ref (A 9), .ref (A 10), .ref (A 11), .int ps, .ref (A 12), .ref (A 13)], ia E (A 1) 60 ln, ia E (A 2) 480 pl, ia E (A 3) 3600 td, za E (A 4) 60 zi, ia E (A 5) 60 u.2.2.2.1, ia E (A 6) 60 u.2.2.2.2.1, ia E (A 7) 81 u.1, ia E (A 8) 3 u.2.1, za E (A 9) 60 u.2.2.1, ia E (A 10) 3600 al, ia E (A 11) 60 pp, ia E (A 12) 60 pw, ia E (A 13) 60 ph]) := by
  refine CTi.of (by decide) (Nat.le_of_ble_eq_true rfl) (fun X F R => ?_)
  refine g_lv [0, 1, 2] [(0, .ref (A 0)), (1, .int x), (2, .int y)] rfl ?_
  have hn60 := hK.1
  refine g_aload_n F 0 rfl dX11_nearest_0 ?_
  refine g_iload_n F 1 rfl dX11_nearest_1 ?_
  refine g_cVi F (wr := []) [] (c_X11_isThing E A ln pl td zi rf rg co bs zt al pp pw ph n kd rk ps L tN I x (hK) (hZ)) (gi_V tw_ml_X11_58 tw_im_X11_isThing tw_se_X11_isThing tw_in_X11 tw_co_X11_isThing) 1 rfl (by decide) ⟨rfl, rfl, by decide, by decide, Nat.zero_le _, Nat.zero_le _⟩ 11 0 rfl rfl [0, 1, 2, 3, 4, 5, 6, 7, 8, 9, 10, 11, 12, 13] [] [0, 1, 2, 3, 4, 5, 6, 7, 8, 9, 10, 11, 12, 13] (fun u => [ob (A 0) 11 [.int (nI n), .int (nI kd), .ref (A 1), .ref (A 2), .ref (A 3), .ref (A 4), .int (nI rk), .ref (A 5), .ref (A 6), .ref (A 7), .ref (A 8), .ref (A 9), .ref (A 10), .ref (A 11), .int ps, .ref (A 12), .ref (A 13)], ia E (A 1) 60 ln, ia E (A 2) 480 pl, ia E (A 3) 3600 td, za E (A 4) 60 zi, ia E (A 5) 60 rf, ia E (A 6) 60 rg, ia E (A 7) 81 co, ia E (A 8) 3 bs, za E (A 9) 60 zt, ia E (A 10) 3600 al, ia E (A 11) 60 pp, ia E (A 12) 60 pw, ia E (A 13) 60 ph]) rfl rfl (by decide) (fun _ => rfl) rfl (Nat.le_of_ble_eq_true rfl) dX11_nearest_2 (fun r_2 u hu_2 => ?_)
  rcases hu_2 with ⟨rfl, t_2, ht_2, rfl⟩ | ⟨rfl, hno_2⟩
  · refine g_if_eq F 37 dX11_nearest_5 (by decide) (fun h => absurd h (by decide)) (fun _ => ?_)
    refine g_iload_n F 2 rfl dX11_nearest_8 ?_
    refine g_iconst F (nI 1) (by decide) dX11_nearest_9 ?_
    refine g_bipush F (nI 60) (by decide) dX11_nearest_10 ?_
    refine g_cSi F (wr := [ob (A 0) 11 [.int (nI n), .int (nI kd), .ref (A 1), .ref (A 2), .ref (A 3), .ref (A 4), .int (nI rk), .ref (A 5), .ref (A 6), .ref (A 7), .ref (A 8), .ref (A 9), .ref (A 10), .ref (A 11), .int ps, .ref (A 12), .ref (A 13)], ia E (A 1) 60 ln, ia E (A 2) 480 pl, ia E (A 3) 3600 td, za E (A 4) 60 zi, ia E (A 5) 60 rf, ia E (A 6) 60 rg, ia E (A 7) 81 co, ia E (A 8) 3 bs, za E (A 9) 60 zt, ia E (A 10) 3600 al, ia E (A 11) 60 pp, ia E (A 12) 60 pw, ia E (A 13) 60 ph]) [] (c_X11_lies E y (nI 1) (nI 60) ) ⟨tw_ml_X11_54, tw_sm_X11_lies, tw_in_X11, tw_co_X11_lies⟩ 3 rfl (by decide) ⟨rfl, rfl, by decide, by decide, Nat.zero_le _, Nat.zero_le _⟩ [] [0, 1, 2, 3, 4, 5, 6, 7, 8, 9, 10, 11, 12, 13] [0, 1, 2, 3, 4, 5, 6, 7, 8, 9, 10, 11, 12, 13] (fun u => [ob (A 0) 11 [.int (nI n), .int (nI kd), .ref (A 1), .ref (A 2), .ref (A 3), .ref (A 4), .int (nI rk), .ref (A 5), .ref (A 6), .ref (A 7), .ref (A 8), .ref (A 9), .ref (A 10), .ref (A 11), .int ps, .ref (A 12), .ref (A 13)], ia E (A 1) 60 ln, ia E (A 2) 480 pl, ia E (A 3) 3600 td, za E (A 4) 60 zi, ia E (A 5) 60 rf, ia E (A 6) 60 rg, ia E (A 7) 81 co, ia E (A 8) 3 bs, za E (A 9) 60 zt, ia E (A 10) 3600 al, ia E (A 11) 60 pp, ia E (A 12) 60 pw, ia E (A 13) 60 ph]) rfl rfl (by decide) (fun _ => rfl) rfl (Nat.le_of_ble_eq_true rfl) dX11_nearest_12 (fun r_12 u hu_12 => ?_)
    rcases hu_12 with ⟨rfl, l1_12, l2_12⟩ | ⟨rfl, l0_12⟩
    · refine g_if_eq F 37 dX11_nearest_15 (by decide) (fun h => absurd h (by decide)) (fun _ => ?_)
      obtain ⟨m9, hm1, hm2, rfl⟩ := i32_rng (lo := 1) (hi := 60) (by decide) (by decide) l1_12 l2_12
      refine g_aload_n F 0 rfl dX11_nearest_18 ?_
      refine g_cVi F (wr := []) [] (c_X11_holds E A ln pl td zi rf rg co bs zt al pp pw ph n kd rk ps L tN I (hK) (hZ)) (gi_V tw_ml_X11_89 tw_im_X11_holds tw_se_X11_holds tw_in_X11 tw_co_X11_holds) 0 rfl (by decide) ⟨rfl, rfl, by decide, by decide, Nat.zero_le _, Nat.zero_le _⟩ 11 0 rfl rfl [0, 1, 2, 3, 4, 5, 6, 7, 8, 9, 10, 11, 12, 13] [] [0, 1, 2, 3, 4, 5, 6, 7, 8, 9, 10, 11, 12, 13] (fun u => [ob (A 0) 11 [.int (nI n), .int (nI kd), .ref (A 1), .ref (A 2), .ref (A 3), .ref (A 4), .int (nI rk), .ref (A 5), .ref (A 6), .ref (A 7), .ref (A 8), .ref (A 9), .ref (A 10), .ref (A 11), .int ps, .ref (A 12), .ref (A 13)], ia E (A 1) 60 ln, ia E (A 2) 480 pl, ia E (A 3) 3600 td, za E (A 4) 60 zi, ia E (A 5) 60 rf, ia E (A 6) 60 rg, ia E (A 7) 81 co, ia E (A 8) 3 u, za E (A 9) 60 zt, ia E (A 10) 3600 al, ia E (A 11) 60 pp, ia E (A 12) 60 pw, ia E (A 13) 60 ph]) rfl rfl (by decide) (fun _ => rfl) rfl (Nat.le_of_ble_eq_true rfl) dX11_nearest_19 (fun r_19 u hu_19 => ?_)
      revert hu_19; revert u; intro bs2_19 hu_19
      rcases hu_19 with ⟨rfl, hlw⟩ | ⟨rfl, hk5, htb⟩
      · refine g_if_eq F 37 dX11_nearest_22 (by decide) (fun h => absurd h (by decide)) (fun _ => ?_)
        refine g_aload_n F 0 rfl dX11_nearest_25 ?_
        refine g_iload_n F 1 rfl dX11_nearest_26 ?_
        refine g_iload_n F 2 rfl dX11_nearest_27 ?_
        refine g_iconst F (nI 1) (by decide) dX11_nearest_28 ?_
        refine g_ldc F tw_cn_X11_107 dX11_nearest_29 ?_
        refine g_top (nI 2147483647) (by decide) ?_
        refine g_cVi F (wr := []) [] (c_X11_those_n E A ln pl td zi rf rg co bs2_19 zt al pp pw ph n kd rk ps L tN I t_2 m9 2147483647 (hK) (hZ) (ht_2) (by omega) (by decide)) (gi_V tw_ml_X11_108 tw_im_X11_those tw_se_X11_those tw_in_X11 tw_co_X11_those) 4 rfl (by decide) ⟨rfl, rfl, by decide, by decide, Nat.zero_le _, Nat.zero_le _⟩ 11 0 rfl rfl [0, 1, 2, 3, 4, 5, 6, 7, 8, 9, 10, 11, 12, 13] [] [0, 1, 2, 3, 4, 5, 6, 7, 8, 9, 10, 11, 12, 13] (fun u => [ob (A 0) 11 [.int (nI n), .int (nI kd), .ref (A 1), .ref (A 2), .ref (A 3), .ref (A 4), .int (nI u.2.2.2.2), .ref (A 5), .ref (A 6), .ref (A 7), .ref (A 8), .ref (A 9), .ref (A 10), .ref (A 11), .int ps, .ref (A 12), .ref (A 13)], ia E (A 1) 60 ln, ia E (A 2) 480 pl, ia E (A 3) 3600 td, za E (A 4) 60 zi, ia E (A 5) 60 u.2.2.1, ia E (A 6) 60 u.2.2.2.1, ia E (A 7) 81 u.1, ia E (A 8) 3 bs2_19, za E (A 9) 60 u.2.1, ia E (A 10) 3600 al, ia E (A 11) 60 pp, ia E (A 12) 60 pw, ia E (A 13) 60 ph]) rfl rfl (by decide) (fun _ => rfl) rfl (Nat.le_of_ble_eq_true rfl) dX11_nearest_31 (fun r_31 u hu_31 => ?_)
        obtain ⟨co_t, zt_t, rf_t, rg_t, c_t⟩ := u
        refine g_ws [ob (A 0) 11 [.int (nI n), .int (nI kd), .ref (A 1), .ref (A 2), .ref (A 3), .ref (A 4), .int (nI c_t), .ref (A 5), .ref (A 6), .ref (A 7), .ref (A 8), .ref (A 9), .ref (A 10), .ref (A 11), .int ps, .ref (A 12), .ref (A 13)], ia E (A 1) 60 ln, ia E (A 2) 480 pl, ia E (A 3) 3600 td, za E (A 4) 60 zi, ia E (A 5) 60 rf_t, ia E (A 6) 60 rg_t, ia E (A 7) 81 co_t, ia E (A 8) 3 bs2_19, za E (A 9) 60 zt_t, ia E (A 10) 3600 al, ia E (A 11) 60 pp, ia E (A 12) 60 pw, ia E (A 13) 60 ph] rfl ?_
        dsimp only at hu_31
        obtain ⟨rfl, hc60, ka, hrk, hrs⟩ := hu_31
        refine g_goto F 38 dX11_nearest_34 (by decide) ?_
        exact R _ ((co_t, bs2_19, zt_t, rf_t, rg_t, c_t)) _ _ dX11_nearest_38 (by (try dsimp only); exact (Or.inl ⟨t_2, m9, ht_2, rfl, ⟨hm1, hm2, rfl⟩, hlw, ka, rkn_iff hrk (fun z0 => ⟨fun ⟨t0, q1, q2, q3⟩ => ⟨t0, q1, ds_le hK.2.2.1 hK.2.2.2.1 hK.2.2.2.2.1 (by omega) (Nat.lt_of_lt_of_le (hZ.2 t0 q1) hn60), q3⟩, fun ⟨t0, q1, q2, q3⟩ => ⟨t0, q1, Nat.le_trans q2 (by decide), q3⟩⟩), rfl, hc60, hrs⟩))
      · refine g_if_eq F 37 dX11_nearest_22 (by decide) (fun _ => ?_) (fun h => absurd (by decide) h)
        refine g_iconst F (-1) (by decide) dX11_nearest_37 ?_
        exact R _ ((co, bs2_19, zt, rf, rg, rk)) _ _ dX11_nearest_38 (by (try dsimp only); exact (Or.inr ⟨fun q0 g0 h1 h2 h3 => lwk_no hk5 htb, rfl, rfl, rfl, rfl⟩))
    · refine g_if_eq F 37 dX11_nearest_15 (by decide) (fun _ => ?_) (fun h => absurd (by decide) h)
      refine g_iconst F (-1) (by decide) dX11_nearest_37 ?_
      exact R _ ((co, bs, zt, rf, rg, rk)) _ _ dX11_nearest_38 (by (try dsimp only); exact (Or.inr ⟨fun q0 g0 h1 h2 h3 => absurd h3.2.2 (i32_no (lo := 1) (hi := 60) (by decide) l0_12 g0 h3.1 h3.2.1), rfl, rfl, rfl, rfl⟩))
  · refine g_if_eq F 37 dX11_nearest_5 (by decide) (fun _ => ?_) (fun h => absurd (by decide) h)
    refine g_iconst F (-1) (by decide) dX11_nearest_37 ?_
    exact R _ ((co, bs, zt, rf, rg, rk)) _ _ dX11_nearest_38 (by (try dsimp only); exact (Or.inr ⟨fun q0 g0 h1 h2 h3 => absurd h2 (hno_2 q0 h1), rfl, rfl, rfl, rfl⟩))

set_option maxHeartbeats 4000000 in
set_option maxRecDepth 100000 in
theorem c_X11_farthest (E : Ev) (A : Nat → Nat) (ln : Nat → Int32) (pl : Nat → Int32) (td : Nat → Int32) (zi : Nat → Int32) (rf : Nat → Int32) (rg : Nat → Int32) (co : Nat → Int32) (bs : Nat → Int32) (zt : Nat → Int32) (al : Nat → Int32) (pp : Nat → Int32) (pw : Nat → Int32) (ph : Nat → Int32) (n : Nat) (kd : Nat) (rk : Nat) (ps : Int32) (L : Nat → Nat) (tN : Nat → Nat) (I : Nat → Bool) (rt : Nat → Nat) (ra : Nat → Nat) (x : Int32) (y : Int32) (hK : MDK n kd L ln pl tN td) (hZ : ZI n zi I) (hR : NBR rk rf rg rt ra) : CTi E yX11_farthest (wq yX11_farthest cX11_farthest 3 (some .int)) (rmk 5 124) [.ref (A 0), .int x, .int y] [ob (A 0) 11 [.int (nI n), .int (nI kd), .ref (A 1), .ref (A 2), .ref (A 3), .ref (A 4), .int (nI rk), .ref (A 5), .ref (A 6), .ref (A 7), .ref (A 8), .ref (A 9), .ref (A 10), .ref (A 11), .int ps, .ref (A 12), .ref (A 13)], ia E (A 1) 60 ln, ia E (A 2) 480 pl, ia E (A 3) 3600 td, za E (A 4) 60 zi, ia E (A 5) 60 rf, ia E (A 6) 60 rg, ia E (A 7) 81 co, ia E (A 8) 3 bs, za E (A 9) 60 zt, ia E (A 10) 3600 al, ia E (A 11) 60 pp, ia E (A 12) 60 pw, ia E (A 13) 60 ph] (fun (r : Int32) (u : (Nat → Int32) × (Nat → Int32) × (Nat → Int32) × (Nat → Int32) × (Nat → Int32) × Nat) => (∃ q0 g0, q0 < n ∧ x = nI q0 ∧ (1 ≤ g0 ∧ g0 ≤ 60 ∧ y = nI g0) ∧ LWK kd tN n ∧ ∃ ka, RKN (fun z0 => ∃ t0, I t0 = true ∧ z0 = (100000 - dsN kd L pl tN q0 t0) * 60 + t0) g0 u.2.2.2.2.2 ka ∧ r = nI u.2.2.2.2.2 ∧ u.2.2.2.2.2 ≤ 60 ∧ ∀ i, i < u.2.2.2.2.2 → u.2.2.2.1 i = nI (ka i % 60) ∧ u.2.2.2.2.1 i = nI (dsN kd L pl tN q0 (ka i % 60))) ∨ ((∀ q0 g0, q0 < n → x = nI q0 → (1 ≤ g0 ∧ g0 ≤ 60 ∧ y = nI g0) → ¬ LWK kd tN n) ∧ r = -1 ∧ u.2.2.2.1 = rf ∧ u.2.2.2.2.1 = rg ∧ u.2.2.2.2.2 = rk)) (fun (u : (Nat → Int32) × (Nat → Int32) × (Nat → Int32) × (Nat → Int32) × (Nat → Int32) × Nat) => [ob (A 0) 11 [.int (nI n), .int (nI kd), .ref (A 1), .ref (A 2), .ref (A 3), .ref (A 4), .int (nI u.2.2.2.2.2), .ref (A 5), .ref (A 6), .ref (A 7), .ref (A 8), .ref (A 9), .ref (A 10), .ref (A 11), .int ps, .ref (A 12), .ref (A 13)], ia E (A 1) 60 ln, ia E (A 2) 480 pl, ia E (A 3) 3600 td, za E (A 4) 60 zi, ia E (A 5) 60 u.2.2.2.1, ia E (A 6) 60 u.2.2.2.2.1, ia E (A 7) 81 u.1, ia E (A 8) 3 u.2.1, za E (A 9) 60 u.2.2.1, ia E (A 10) 3600 al, ia E (A 11) 60 pp, ia E (A 12) 60 pw, ia E (A 13) 60 ph]) := by
  refine CTi.of (by decide) (Nat.le_of_ble_eq_true rfl) (fun X F R => ?_)
  refine g_lv [0, 1, 2] [(0, .ref (A 0)), (1, .int x), (2, .int y)] rfl ?_
  have hn60 := hK.1
  refine g_aload_n F 0 rfl dX11_farthest_0 ?_
  refine g_iload_n F 1 rfl dX11_farthest_1 ?_
  refine g_cVi F (wr := []) [] (c_X11_isThing E A ln pl td zi rf rg co bs zt al pp pw ph n kd rk ps L tN I x (hK) (hZ)) (gi_V tw_ml_X11_58 tw_im_X11_isThing tw_se_X11_isThing tw_in_X11 tw_co_X11_isThing) 1 rfl (by decide) ⟨rfl, rfl, by decide, by decide, Nat.zero_le _, Nat.zero_le _⟩ 11 0 rfl rfl [0, 1, 2, 3, 4, 5, 6, 7, 8, 9, 10, 11, 12, 13] [] [0, 1, 2, 3, 4, 5, 6, 7, 8, 9, 10, 11, 12, 13] (fun u => [ob (A 0) 11 [.int (nI n), .int (nI kd), .ref (A 1), .ref (A 2), .ref (A 3), .ref (A 4), .int (nI rk), .ref (A 5), .ref (A 6), .ref (A 7), .ref (A 8), .ref (A 9), .ref (A 10), .ref (A 11), .int ps, .ref (A 12), .ref (A 13)], ia E (A 1) 60 ln, ia E (A 2) 480 pl, ia E (A 3) 3600 td, za E (A 4) 60 zi, ia E (A 5) 60 rf, ia E (A 6) 60 rg, ia E (A 7) 81 co, ia E (A 8) 3 bs, za E (A 9) 60 zt, ia E (A 10) 3600 al, ia E (A 11) 60 pp, ia E (A 12) 60 pw, ia E (A 13) 60 ph]) rfl rfl (by decide) (fun _ => rfl) rfl (Nat.le_of_ble_eq_true rfl) dX11_farthest_2 (fun r_2 u hu_2 => ?_)
  rcases hu_2 with ⟨rfl, t_2, ht_2, rfl⟩ | ⟨rfl, hno_2⟩
  · refine g_if_eq F 37 dX11_farthest_5 (by decide) (fun h => absurd h (by decide)) (fun _ => ?_)
    refine g_iload_n F 2 rfl dX11_farthest_8 ?_
    refine g_iconst F (nI 1) (by decide) dX11_farthest_9 ?_
    refine g_bipush F (nI 60) (by decide) dX11_farthest_10 ?_
    refine g_cSi F (wr := [ob (A 0) 11 [.int (nI n), .int (nI kd), .ref (A 1), .ref (A 2), .ref (A 3), .ref (A 4), .int (nI rk), .ref (A 5), .ref (A 6), .ref (A 7), .ref (A 8), .ref (A 9), .ref (A 10), .ref (A 11), .int ps, .ref (A 12), .ref (A 13)], ia E (A 1) 60 ln, ia E (A 2) 480 pl, ia E (A 3) 3600 td, za E (A 4) 60 zi, ia E (A 5) 60 rf, ia E (A 6) 60 rg, ia E (A 7) 81 co, ia E (A 8) 3 bs, za E (A 9) 60 zt, ia E (A 10) 3600 al, ia E (A 11) 60 pp, ia E (A 12) 60 pw, ia E (A 13) 60 ph]) [] (c_X11_lies E y (nI 1) (nI 60) ) ⟨tw_ml_X11_54, tw_sm_X11_lies, tw_in_X11, tw_co_X11_lies⟩ 3 rfl (by decide) ⟨rfl, rfl, by decide, by decide, Nat.zero_le _, Nat.zero_le _⟩ [] [0, 1, 2, 3, 4, 5, 6, 7, 8, 9, 10, 11, 12, 13] [0, 1, 2, 3, 4, 5, 6, 7, 8, 9, 10, 11, 12, 13] (fun u => [ob (A 0) 11 [.int (nI n), .int (nI kd), .ref (A 1), .ref (A 2), .ref (A 3), .ref (A 4), .int (nI rk), .ref (A 5), .ref (A 6), .ref (A 7), .ref (A 8), .ref (A 9), .ref (A 10), .ref (A 11), .int ps, .ref (A 12), .ref (A 13)], ia E (A 1) 60 ln, ia E (A 2) 480 pl, ia E (A 3) 3600 td, za E (A 4) 60 zi, ia E (A 5) 60 rf, ia E (A 6) 60 rg, ia E (A 7) 81 co, ia E (A 8) 3 bs, za E (A 9) 60 zt, ia E (A 10) 3600 al, ia E (A 11) 60 pp, ia E (A 12) 60 pw, ia E (A 13) 60 ph]) rfl rfl (by decide) (fun _ => rfl) rfl (Nat.le_of_ble_eq_true rfl) dX11_farthest_12 (fun r_12 u hu_12 => ?_)
    rcases hu_12 with ⟨rfl, l1_12, l2_12⟩ | ⟨rfl, l0_12⟩
    · refine g_if_eq F 37 dX11_farthest_15 (by decide) (fun h => absurd h (by decide)) (fun _ => ?_)
      obtain ⟨m9, hm1, hm2, rfl⟩ := i32_rng (lo := 1) (hi := 60) (by decide) (by decide) l1_12 l2_12
      refine g_aload_n F 0 rfl dX11_farthest_18 ?_
      refine g_cVi F (wr := []) [] (c_X11_holds E A ln pl td zi rf rg co bs zt al pp pw ph n kd rk ps L tN I (hK) (hZ)) (gi_V tw_ml_X11_89 tw_im_X11_holds tw_se_X11_holds tw_in_X11 tw_co_X11_holds) 0 rfl (by decide) ⟨rfl, rfl, by decide, by decide, Nat.zero_le _, Nat.zero_le _⟩ 11 0 rfl rfl [0, 1, 2, 3, 4, 5, 6, 7, 8, 9, 10, 11, 12, 13] [] [0, 1, 2, 3, 4, 5, 6, 7, 8, 9, 10, 11, 12, 13] (fun u => [ob (A 0) 11 [.int (nI n), .int (nI kd), .ref (A 1), .ref (A 2), .ref (A 3), .ref (A 4), .int (nI rk), .ref (A 5), .ref (A 6), .ref (A 7), .ref (A 8), .ref (A 9), .ref (A 10), .ref (A 11), .int ps, .ref (A 12), .ref (A 13)], ia E (A 1) 60 ln, ia E (A 2) 480 pl, ia E (A 3) 3600 td, za E (A 4) 60 zi, ia E (A 5) 60 rf, ia E (A 6) 60 rg, ia E (A 7) 81 co, ia E (A 8) 3 u, za E (A 9) 60 zt, ia E (A 10) 3600 al, ia E (A 11) 60 pp, ia E (A 12) 60 pw, ia E (A 13) 60 ph]) rfl rfl (by decide) (fun _ => rfl) rfl (Nat.le_of_ble_eq_true rfl) dX11_farthest_19 (fun r_19 u hu_19 => ?_)
      revert hu_19; revert u; intro bs2_19 hu_19
      rcases hu_19 with ⟨rfl, hlw⟩ | ⟨rfl, hk5, htb⟩
      · refine g_if_eq F 37 dX11_farthest_22 (by decide) (fun h => absurd h (by decide)) (fun _ => ?_)
        refine g_aload_n F 0 rfl dX11_farthest_25 ?_
        refine g_iload_n F 1 rfl dX11_farthest_26 ?_
        refine g_iload_n F 2 rfl dX11_farthest_27 ?_
        refine g_iconst F (nI 0) (by decide) dX11_farthest_28 ?_
        refine g_ldc F tw_cn_X11_107 dX11_farthest_29 ?_
        refine g_top (nI 2147483647) (by decide) ?_
        refine g_cVi F (wr := []) [] (c_X11_those_f E A ln pl td zi rf rg co bs2_19 zt al pp pw ph n kd rk ps L tN I t_2 m9 2147483647 (hK) (hZ) (ht_2) (by omega) (by decide) (by decide)) (gi_V tw_ml_X11_108 tw_im_X11_those tw_se_X11_those tw_in_X11 tw_co_X11_those) 4 rfl (by decide) ⟨rfl, rfl, by decide, by decide, Nat.zero_le _, Nat.zero_le _⟩ 11 0 rfl rfl [0, 1, 2, 3, 4, 5, 6, 7, 8, 9, 10, 11, 12, 13] [] [0, 1, 2, 3, 4, 5, 6, 7, 8, 9, 10, 11, 12, 13] (fun u => [ob (A 0) 11 [.int (nI n), .int (nI kd), .ref (A 1), .ref (A 2), .ref (A 3), .ref (A 4), .int (nI u.2.2.2.2), .ref (A 5), .ref (A 6), .ref (A 7), .ref (A 8), .ref (A 9), .ref (A 10), .ref (A 11), .int ps, .ref (A 12), .ref (A 13)], ia E (A 1) 60 ln, ia E (A 2) 480 pl, ia E (A 3) 3600 td, za E (A 4) 60 zi, ia E (A 5) 60 u.2.2.1, ia E (A 6) 60 u.2.2.2.1, ia E (A 7) 81 u.1, ia E (A 8) 3 bs2_19, za E (A 9) 60 u.2.1, ia E (A 10) 3600 al, ia E (A 11) 60 pp, ia E (A 12) 60 pw, ia E (A 13) 60 ph]) rfl rfl (by decide) (fun _ => rfl) rfl (Nat.le_of_ble_eq_true rfl) dX11_farthest_31 (fun r_31 u hu_31 => ?_)
        obtain ⟨co_t, zt_t, rf_t, rg_t, c_t⟩ := u
        refine g_ws [ob (A 0) 11 [.int (nI n), .int (nI kd), .ref (A 1), .ref (A 2), .ref (A 3), .ref (A 4), .int (nI c_t), .ref (A 5), .ref (A 6), .ref (A 7), .ref (A 8), .ref (A 9), .ref (A 10), .ref (A 11), .int ps, .ref (A 12), .ref (A 13)], ia E (A 1) 60 ln, ia E (A 2) 480 pl, ia E (A 3) 3600 td, za E (A 4) 60 zi, ia E (A 5) 60 rf_t, ia E (A 6) 60 rg_t, ia E (A 7) 81 co_t, ia E (A 8) 3 bs2_19, za E (A 9) 60 zt_t, ia E (A 10) 3600 al, ia E (A 11) 60 pp, ia E (A 12) 60 pw, ia E (A 13) 60 ph] rfl ?_
        dsimp only at hu_31
        obtain ⟨rfl, hc60, ka, hrk, hrs⟩ := hu_31
        refine g_goto F 38 dX11_farthest_34 (by decide) ?_
        exact R _ ((co_t, bs2_19, zt_t, rf_t, rg_t, c_t)) _ _ dX11_farthest_38 (by (try dsimp only); exact (Or.inl ⟨t_2, m9, ht_2, rfl, ⟨hm1, hm2, rfl⟩, hlw, ka, rkn_iff hrk (fun z0 => ⟨fun ⟨t0, q1, q2, q3⟩ => ⟨t0, q1, q3⟩, fun ⟨t0, q1, q3⟩ => ⟨t0, q1, Nat.le_trans (ds_le hK.2.2.1 hK.2.2.2.1 hK.2.2.2.2.1 (by omega) (Nat.lt_of_lt_of_le (hZ.2 t0 q1) hn60)) (by decide), q3⟩⟩), rfl, hc60, hrs⟩))
      · refine g_if_eq F 37 dX11_farthest_22 (by decide) (fun _ => ?_) (fun h => absurd (by decide) h)
        refine g_iconst F (-1) (by decide) dX11_farthest_37 ?_
        exact R _ ((co, bs2_19, zt, rf, rg, rk)) _ _ dX11_farthest_38 (by (try dsimp only); exact (Or.inr ⟨fun q0 g0 h1 h2 h3 => lwk_no hk5 htb, rfl, rfl, rfl, rfl⟩))
    · refine g_if_eq F 37 dX11_farthest_15 (by decide) (fun _ => ?_) (fun h => absurd (by decide) h)
      refine g_iconst F (-1) (by decide) dX11_farthest_37 ?_
      exact R _ ((co, bs, zt, rf, rg, rk)) _ _ dX11_farthest_38 (by (try dsimp only); exact (Or.inr ⟨fun q0 g0 h1 h2 h3 => absurd h3.2.2 (i32_no (lo := 1) (hi := 60) (by decide) l0_12 g0 h3.1 h3.2.1), rfl, rfl, rfl, rfl⟩))
  · refine g_if_eq F 37 dX11_farthest_5 (by decide) (fun _ => ?_) (fun h => absurd (by decide) h)
    refine g_iconst F (-1) (by decide) dX11_farthest_37 ?_
    exact R _ ((co, bs, zt, rf, rg, rk)) _ _ dX11_farthest_38 (by (try dsimp only); exact (Or.inr ⟨fun q0 g0 h1 h2 h3 => absurd h2 (hno_2 q0 h1), rfl, rfl, rfl, rfl⟩))

set_option maxHeartbeats 4000000 in
set_option maxRecDepth 100000 in
theorem c_X11_within (E : Ev) (A : Nat → Nat) (ln : Nat → Int32) (pl : Nat → Int32) (td : Nat → Int32) (zi : Nat → Int32) (rf : Nat → Int32) (rg : Nat → Int32) (co : Nat → Int32) (bs : Nat → Int32) (zt : Nat → Int32) (al : Nat → Int32) (pp : Nat → Int32) (pw : Nat → Int32) (ph : Nat → Int32) (n : Nat) (kd : Nat) (rk : Nat) (ps : Int32) (L : Nat → Nat) (tN : Nat → Nat) (I : Nat → Bool) (rt : Nat → Nat) (ra : Nat → Nat) (x : Int32) (y : Int32) (hK : MDK n kd L ln pl tN td) (hZ : ZI n zi I) (hR : NBR rk rf rg rt ra) : CTi E yX11_within (wq yX11_within cX11_within 3 (some .int)) (rmk 5 124) [.ref (A 0), .int x, .int y] [ob (A 0) 11 [.int (nI n), .int (nI kd), .ref (A 1), .ref (A 2), .ref (A 3), .ref (A 4), .int (nI rk), .ref (A 5), .ref (A 6), .ref (A 7), .ref (A 8), .ref (A 9), .ref (A 10), .ref (A 11), .int ps, .ref (A 12), .ref (A 13)], ia E (A 1) 60 ln, ia E (A 2) 480 pl, ia E (A 3) 3600 td, za E (A 4) 60 zi, ia E (A 5) 60 rf, ia E (A 6) 60 rg, ia E (A 7) 81 co, ia E (A 8) 3 bs, za E (A 9) 60 zt, ia E (A 10) 3600 al, ia E (A 11) 60 pp, ia E (A 12) 60 pw, ia E (A 13) 60 ph] (fun (r : Int32) (u : (Nat → Int32) × (Nat → Int32) × (Nat → Int32) × (Nat → Int32) × (Nat → Int32) × Nat) => (∃ q0 g0, q0 < n ∧ x = nI q0 ∧ (g0 < 2 ^ 31 ∧ y = nI g0) ∧ LWK kd tN n ∧ ∃ ka, RKN (fun z0 => ∃ t0, I t0 = true ∧ dsN kd L pl tN q0 t0 ≤ g0 ∧ z0 = dsN kd L pl tN q0 t0 * 60 + t0) 60 u.2.2.2.2.2 ka ∧ r = nI u.2.2.2.2.2 ∧ u.2.2.2.2.2 ≤ 60 ∧ ∀ i, i < u.2.2.2.2.2 → u.2.2.2.1 i = nI (ka i % 60) ∧ u.2.2.2.2.1 i = nI (dsN kd L pl tN q0 (ka i % 60))) ∨ ((∀ q0 g0, q0 < n → x = nI q0 → (g0 < 2 ^ 31 ∧ y = nI g0) → ¬ LWK kd tN n) ∧ r = -1 ∧ u.2.2.2.1 = rf ∧ u.2.2.2.2.1 = rg ∧ u.2.2.2.2.2 = rk)) (fun (u : (Nat → Int32) × (Nat → Int32) × (Nat → Int32) × (Nat → Int32) × (Nat → Int32) × Nat) => [ob (A 0) 11 [.int (nI n), .int (nI kd), .ref (A 1), .ref (A 2), .ref (A 3), .ref (A 4), .int (nI u.2.2.2.2.2), .ref (A 5), .ref (A 6), .ref (A 7), .ref (A 8), .ref (A 9), .ref (A 10), .ref (A 11), .int ps, .ref (A 12), .ref (A 13)], ia E (A 1) 60 ln, ia E (A 2) 480 pl, ia E (A 3) 3600 td, za E (A 4) 60 zi, ia E (A 5) 60 u.2.2.2.1, ia E (A 6) 60 u.2.2.2.2.1, ia E (A 7) 81 u.1, ia E (A 8) 3 u.2.1, za E (A 9) 60 u.2.2.1, ia E (A 10) 3600 al, ia E (A 11) 60 pp, ia E (A 12) 60 pw, ia E (A 13) 60 ph]) := by
  refine CTi.of (by decide) (Nat.le_of_ble_eq_true rfl) (fun X F R => ?_)
  refine g_lv [0, 1, 2] [(0, .ref (A 0)), (1, .int x), (2, .int y)] rfl ?_
  have hn60 := hK.1
  refine g_aload_n F 0 rfl dX11_within_0 ?_
  refine g_iload_n F 1 rfl dX11_within_1 ?_
  refine g_cVi F (wr := []) [] (c_X11_isThing E A ln pl td zi rf rg co bs zt al pp pw ph n kd rk ps L tN I x (hK) (hZ)) (gi_V tw_ml_X11_58 tw_im_X11_isThing tw_se_X11_isThing tw_in_X11 tw_co_X11_isThing) 1 rfl (by decide) ⟨rfl, rfl, by decide, by decide, Nat.zero_le _, Nat.zero_le _⟩ 11 0 rfl rfl [0, 1, 2, 3, 4, 5, 6, 7, 8, 9, 10, 11, 12, 13] [] [0, 1, 2, 3, 4, 5, 6, 7, 8, 9, 10, 11, 12, 13] (fun u => [ob (A 0) 11 [.int (nI n), .int (nI kd), .ref (A 1), .ref (A 2), .ref (A 3), .ref (A 4), .int (nI rk), .ref (A 5), .ref (A 6), .ref (A 7), .ref (A 8), .ref (A 9), .ref (A 10), .ref (A 11), .int ps, .ref (A 12), .ref (A 13)], ia E (A 1) 60 ln, ia E (A 2) 480 pl, ia E (A 3) 3600 td, za E (A 4) 60 zi, ia E (A 5) 60 rf, ia E (A 6) 60 rg, ia E (A 7) 81 co, ia E (A 8) 3 bs, za E (A 9) 60 zt, ia E (A 10) 3600 al, ia E (A 11) 60 pp, ia E (A 12) 60 pw, ia E (A 13) 60 ph]) rfl rfl (by decide) (fun _ => rfl) rfl (Nat.le_of_ble_eq_true rfl) dX11_within_2 (fun r_2 u hu_2 => ?_)
  rcases hu_2 with ⟨rfl, t_2, ht_2, rfl⟩ | ⟨rfl, hno_2⟩
  · refine g_if_eq F 31 dX11_within_5 (by decide) (fun h => absurd h (by decide)) (fun _ => ?_)
    refine g_iload_n F 2 rfl dX11_within_8 ?_
    refine g_if_lt F 31 dX11_within_9 (by decide) (fun c_9 => ?_) (fun c_9 => ?_)
    · refine g_iconst F (-1) (by decide) dX11_within_31 ?_
      exact R _ ((co, bs, zt, rf, rg, rk)) _ _ dX11_within_32 (by (try dsimp only); exact (Or.inr ⟨fun q0 g0 h1 h2 h3 => absurd c_9 (by rw [h3.2]; exact nI_pos h3.1), rfl, rfl, rfl, rfl⟩))
    · obtain ⟨g9, hg9, rfl⟩ := nI_of c_9
      refine g_aload_n F 0 rfl dX11_within_12 ?_
      refine g_cVi F (wr := []) [] (c_X11_holds E A ln pl td zi rf rg co bs zt al pp pw ph n kd rk ps L tN I (hK) (hZ)) (gi_V tw_ml_X11_89 tw_im_X11_holds tw_se_X11_holds tw_in_X11 tw_co_X11_holds) 0 rfl (by decide) ⟨rfl, rfl, by decide, by decide, Nat.zero_le _, Nat.zero_le _⟩ 11 0 rfl rfl [0, 1, 2, 3, 4, 5, 6, 7, 8, 9, 10, 11, 12, 13] [] [0, 1, 2, 3, 4, 5, 6, 7, 8, 9, 10, 11, 12, 13] (fun u => [ob (A 0) 11 [.int (nI n), .int (nI kd), .ref (A 1), .ref (A 2), .ref (A 3), .ref (A 4), .int (nI rk), .ref (A 5), .ref (A 6), .ref (A 7), .ref (A 8), .ref (A 9), .ref (A 10), .ref (A 11), .int ps, .ref (A 12), .ref (A 13)], ia E (A 1) 60 ln, ia E (A 2) 480 pl, ia E (A 3) 3600 td, za E (A 4) 60 zi, ia E (A 5) 60 rf, ia E (A 6) 60 rg, ia E (A 7) 81 co, ia E (A 8) 3 u, za E (A 9) 60 zt, ia E (A 10) 3600 al, ia E (A 11) 60 pp, ia E (A 12) 60 pw, ia E (A 13) 60 ph]) rfl rfl (by decide) (fun _ => rfl) rfl (Nat.le_of_ble_eq_true rfl) dX11_within_13 (fun r_13 u hu_13 => ?_)
      revert hu_13; revert u; intro bs2_13 hu_13
      rcases hu_13 with ⟨rfl, hlw⟩ | ⟨rfl, hk5, htb⟩
      · refine g_if_eq F 31 dX11_within_16 (by decide) (fun h => absurd h (by decide)) (fun _ => ?_)
        refine g_aload_n F 0 rfl dX11_within_19 ?_
        refine g_iload_n F 1 rfl dX11_within_20 ?_
        refine g_bipush F (nI 60) (by decide) dX11_within_21 ?_
        refine g_iconst F (nI 1) (by decide) dX11_within_23 ?_
        refine g_iload_n F 2 rfl dX11_within_24 ?_
        refine g_cVi F (wr := []) [] (c_X11_those_n E A ln pl td zi rf rg co bs2_13 zt al pp pw ph n kd rk ps L tN I t_2 60 g9 (hK) (hZ) (ht_2) (by omega) (hg9)) (gi_V tw_ml_X11_108 tw_im_X11_those tw_se_X11_those tw_in_X11 tw_co_X11_those) 4 rfl (by decide) ⟨rfl, rfl, by decide, by decide, Nat.zero_le _, Nat.zero_le _⟩ 11 0 rfl rfl [0, 1, 2, 3, 4, 5, 6, 7, 8, 9, 10, 11, 12, 13] [] [0, 1, 2, 3, 4, 5, 6, 7, 8, 9, 10, 11, 12, 13] (fun u => [ob (A 0) 11 [.int (nI n), .int (nI kd), .ref (A 1), .ref (A 2), .ref (A 3), .ref (A 4), .int (nI u.2.2.2.2), .ref (A 5), .ref (A 6), .ref (A 7), .ref (A 8), .ref (A 9), .ref (A 10), .ref (A 11), .int ps, .ref (A 12), .ref (A 13)], ia E (A 1) 60 ln, ia E (A 2) 480 pl, ia E (A 3) 3600 td, za E (A 4) 60 zi, ia E (A 5) 60 u.2.2.1, ia E (A 6) 60 u.2.2.2.1, ia E (A 7) 81 u.1, ia E (A 8) 3 bs2_13, za E (A 9) 60 u.2.1, ia E (A 10) 3600 al, ia E (A 11) 60 pp, ia E (A 12) 60 pw, ia E (A 13) 60 ph]) rfl rfl (by decide) (fun _ => rfl) rfl (Nat.le_of_ble_eq_true rfl) dX11_within_25 (fun r_25 u hu_25 => ?_)
        obtain ⟨co_t, zt_t, rf_t, rg_t, c_t⟩ := u
        refine g_ws [ob (A 0) 11 [.int (nI n), .int (nI kd), .ref (A 1), .ref (A 2), .ref (A 3), .ref (A 4), .int (nI c_t), .ref (A 5), .ref (A 6), .ref (A 7), .ref (A 8), .ref (A 9), .ref (A 10), .ref (A 11), .int ps, .ref (A 12), .ref (A 13)], ia E (A 1) 60 ln, ia E (A 2) 480 pl, ia E (A 3) 3600 td, za E (A 4) 60 zi, ia E (A 5) 60 rf_t, ia E (A 6) 60 rg_t, ia E (A 7) 81 co_t, ia E (A 8) 3 bs2_13, za E (A 9) 60 zt_t, ia E (A 10) 3600 al, ia E (A 11) 60 pp, ia E (A 12) 60 pw, ia E (A 13) 60 ph] rfl ?_
        dsimp only at hu_25
        obtain ⟨rfl, hc60, ka, hrk, hrs⟩ := hu_25
        refine g_goto F 32 dX11_within_28 (by decide) ?_
        exact R _ ((co_t, bs2_13, zt_t, rf_t, rg_t, c_t)) _ _ dX11_within_32 (by (try dsimp only); exact (Or.inl ⟨t_2, g9, ht_2, rfl, ⟨hg9, rfl⟩, hlw, ka, hrk, rfl, hc60, hrs⟩))
      · refine g_if_eq F 31 dX11_within_16 (by decide) (fun _ => ?_) (fun h => absurd (by decide) h)
        refine g_iconst F (-1) (by decide) dX11_within_31 ?_
        exact R _ ((co, bs2_13, zt, rf, rg, rk)) _ _ dX11_within_32 (by (try dsimp only); exact (Or.inr ⟨fun q0 g0 h1 h2 h3 => lwk_no hk5 htb, rfl, rfl, rfl, rfl⟩))
  · refine g_if_eq F 31 dX11_within_5 (by decide) (fun _ => ?_) (fun h => absurd (by decide) h)
    refine g_iconst F (-1) (by decide) dX11_within_31 ?_
    exact R _ ((co, bs, zt, rf, rg, rk)) _ _ dX11_within_32 (by (try dsimp only); exact (Or.inr ⟨fun q0 g0 h1 h2 h3 => absurd h2 (hno_2 q0 h1), rfl, rfl, rfl, rfl⟩))
