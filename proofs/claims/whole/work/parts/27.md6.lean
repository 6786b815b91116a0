set_option maxHeartbeats 4000000 in
set_option maxRecDepth 100000 in
theorem c_X11_net (E : Ev) (A : Nat → Nat) (ln : Nat → Int32) (pl : Nat → Int32) (td : Nat → Int32) (zi : Nat → Int32) (rf : Nat → Int32) (rg : Nat → Int32) (co : Nat → Int32) (bs : Nat → Int32) (zt : Nat → Int32) (al : Nat → Int32) (pp : Nat → Int32) (pw : Nat → Int32) (ph : Nat → Int32) (n : Nat) (kd : Nat) (rk : Nat) (ps : Int32) (L : Nat → Nat) (tN : Nat → Nat) (I : Nat → Bool) (rt : Nat → Nat) (ra : Nat → Nat) (x : Int32) (hK : MDK n kd L ln pl tN td) (hZ : ZI n zi I) (hR : NBR rk rf rg rt ra) : CTi E yX11_net (wq yX11_net cX11_net 3 (some .int)) (rmk 4 98) [.ref (A 0), .int x] [ob (A 0) 11 [.int (nI n), .int (nI kd), .ref (A 1), .ref (A 2), .ref (A 3), .ref (A 4), .int (nI rk), .ref (A 5), .ref (A 6), .ref (A 7), .ref (A 8), .ref (A 9), .ref (A 10), .ref (A 11), .int ps, .ref (A 12), .ref (A 13)], ia E (A 1) 60 ln, ia E (A 2) 480 pl, ia E (A 3) 3600 td, za E (A 4) 60 zi, ia E (A 5) 60 rf, ia E (A 6) 60 rg, ia E (A 7) 81 co, ia E (A 8) 3 bs, za E (A 9) 60 zt, ia E (A 10) 3600 al, ia E (A 11) 60 pp, ia E (A 12) 60 pw, ia E (A 13) 60 ph] (fun (r : Int32) (u : (Nat → Int32) × (Nat → Int32) × (Nat → Int32) × (Nat → Int32) × (Nat → Int32) × Nat) => (∃ r0, r0 < 2 ^ 31 ∧ x = nI r0 ∧ LWK kd tN n ∧ ∃ t, NET (dsN kd L pl tN) I r0 u.2.2.2.2.2 t ∧ r = nI u.2.2.2.2.2 ∧ u.2.2.2.2.2 ≤ 60 ∧ ∀ j, j < u.2.2.2.2.2 → u.2.2.2.1 j = nI (t j) ∧ u.2.2.2.2.1 j = nI 0) ∨ ((∀ r0, r0 < 2 ^ 31 → x = nI r0 → ¬ LWK kd tN n) ∧ r = -1 ∧ u.2.2.2.1 = rf ∧ u.2.2.2.2.1 = rg ∧ u.2.2.2.2.2 = rk)) (fun (u : (Nat → Int32) × (Nat → Int32) × (Nat → Int32) × (Nat → Int32) × (Nat → Int32) × Nat) => [ob (A 0) 11 [.int (nI n), .int (nI kd), .ref (A 1), .ref (A 2), .ref (A 3), .ref (A 4), .int (nI u.2.2.2.2.2), .ref (A 5), .ref (A 6), .ref (A 7), .ref (A 8), .ref (A 9), .ref (A 10), .ref (A 11), .int ps, .ref (A 12), .ref (A 13)], ia E (A 1) 60 ln, ia E (A 2) 480 pl, ia E (A 3) 3600 td, za E (A 4) 60 zi, ia E (A 5) 60 u.2.2.2.1, ia E (A 6) 60 u.2.2.2.2.1, ia E (A 7) 81 u.1, ia E (A 8) 3 u.2.1, za E (A 9) 60 u.2.2.1, ia E (A 10) 3600 al, ia E (A 11) 60 pp, ia E (A 12) 60 pw, ia E (A 13) 60 ph]) := by
  refine CTi.of (by decide) (Nat.le_of_ble_eq_true rfl) (fun X F R => ?_)
  refine g_lv [0, 1] [(0, .ref (A 0)), (1, .int x)] rfl ?_
  have hn60 := hK.1
  have hI60 : ∀ t, I t = true → t < 60 := fun t ht => Nat.lt_of_lt_of_le (hZ.2 t ht) hn60
  refine g_iload_n F 1 rfl dX11_net_0 ?_
  refine g_if_lt F 11 dX11_net_1 (by decide) (fun c_1 => ?_) (fun c_1 => ?_)
  · refine g_iconst F (-1) (by decide) dX11_net_11 ?_
    exact R _ ((co, bs, zt, rf, rg, rk)) _ _ dX11_net_12 (by (try dsimp only); exact (Or.inr ⟨fun r0 h1 h2 => absurd c_1 (by rw [h2]; exact nI_pos h1), rfl, rfl, rfl, rfl⟩))
  · refine g_aload_n F 0 rfl dX11_net_4 ?_
    refine g_cVi F (wr := []) [] (c_X11_holds E A ln pl td zi rf rg co bs zt al pp pw ph n kd rk ps L tN I (hK) (hZ)) (gi_V tw_ml_X11_89 tw_im_X11_holds tw_se_X11_holds tw_in_X11 tw_co_X11_holds) 0 rfl (by decide) ⟨rfl, rfl, by decide, by decide, Nat.zero_le _, Nat.zero_le _⟩ 11 0 rfl rfl [0, 1, 2, 3, 4, 5, 6, 7, 8, 9, 10, 11, 12, 13] [] [0, 1, 2, 3, 4, 5, 6, 7, 8, 9, 10, 11, 12, 13] (fun u => [ob (A 0) 11 [.int (nI n), .int (nI kd), .ref (A 1), .ref (A 2), .ref (A 3), .ref (A 4), .int (nI rk), .ref (A 5), .ref (A 6), .ref (A 7), .ref (A 8), .ref (A 9), .ref (A 10), .ref (A 11), .int ps, .ref (A 12), .ref (A 13)], ia E (A 1) 60 ln, ia E (A 2) 480 pl, ia E (A 3) 3600 td, za E (A 4) 60 zi, ia E (A 5) 60 rf, ia E (A 6) 60 rg, ia E (A 7) 81 co, ia E (A 8) 3 u, za E (A 9) 60 zt, ia E (A 10) 3600 al, ia E (A 11) 60 pp, ia E (A 12) 60 pw, ia E (A 13) 60 ph]) rfl rfl (by decide) (fun _ => rfl) rfl (Nat.le_of_ble_eq_true rfl) dX11_net_5 (fun r_5 u hu_5 => ?_)
    revert hu_5; revert u; intro bs2_5 hu_5
    rcases hu_5 with ⟨rfl, hlw⟩ | ⟨rfl, hk5, htb⟩
    · refine g_if_ne F 13 dX11_net_8 (by decide) (fun _ => ?_) (fun h => absurd h (by decide))
      obtain ⟨r9, hr9, rfl⟩ := nI_of c_1
      refine g_aload_n F 0 rfl dX11_net_13 ?_
      refine g_iconst F (nI 0) (by decide) dX11_net_14 ?_
      refine g_put F 11 0 6 [ob (A 0) 11 [.int (nI n), .int (nI kd), .ref (A 1), .ref (A 2), .ref (A 3), .ref (A 4), .int (nI 0), .ref (A 5), .ref (A 6), .ref (A 7), .ref (A 8), .ref (A 9), .ref (A 10), .ref (A 11), .int ps, .ref (A 12), .ref (A 13)], ia E (A 1) 60 ln, ia E (A 2) 480 pl, ia E (A 3) 3600 td, za E (A 4) 60 zi, ia E (A 5) 60 rf, ia E (A 6) 60 rg, ia E (A 7) 81 co, ia E (A 8) 3 bs2_5, za E (A 9) 60 zt, ia E (A 10) 3600 al, ia E (A 11) 60 pp, ia E (A 12) 60 pw, ia E (A 13) 60 ph] inX11 tyX11_ok nmX11 rfl rfl (by decide) tw_fl_X11_93 rfl rfl rfl rfl (Nat.le_of_ble_eq_true rfl) rfl dX11_net_15 ?_
      refine g_iconst F (nI 0) (by decide) dX11_net_18 ?_
      refine g_istore_n F 2 [(0, .ref (A 0)), (1, .int (nI r9)), (2, .int (nI 0))] [1, 2, 0] dX11_net_19 rfl (by decide) rfl ?_
      have lp_20 : ∀ (n_20 : Nat) (i : Nat) (c : Nat) (tt : Nat → Nat) (g : Nat → Int32) (z1 : Nat → Int32) (r1 : Nat → Int32) (r2 : Nat → Int32), (i ≤ n) → (c ≤ i) → (∀ a0, a0 < c → r1 a0 = nI (tt a0) ∧ r2 a0 = nI 0 ∧ I (tt a0) = true ∧ tt a0 < i) → (∀ a0 a1, a0 < a1 → a1 < c → tt a0 < tt a1 ∧ r9 < dsN kd L pl tN (tt a1) (tt a0)) → (∀ x1, x1 < i → I x1 = true → (∃ a0, a0 < c ∧ tt a0 = x1) ∨ (∃ a0, a0 < c ∧ tt a0 < x1 ∧ dsN kd L pl tN x1 (tt a0) ≤ r9)) → n - i < n_20 → GW E X 0 0 [ob (A 0) 11 [.int (nI n), .int (nI kd), .ref (A 1), .ref (A 2), .ref (A 3), .ref (A 4), .int (nI c), .ref (A 5), .ref (A 6), .ref (A 7), .ref (A 8), .ref (A 9), .ref (A 10), .ref (A 11), .int ps, .ref (A 12), .ref (A 13)], ia E (A 1) 60 ln, ia E (A 2) 480 pl, ia E (A 3) 3600 td, za E (A 4) 60 zi, ia E (A 5) 60 r1, ia E (A 6) 60 r2, ia E (A 7) 81 g, ia E (A 8) 3 bs2_5, za E (A 9) 60 z1, ia E (A 10) 3600 al, ia E (A 11) 60 pp, ia E (A 12) 60 pw, ia E (A 13) 60 ph] [(0, .ref (A 0)), (1, .int (nI r9)), (2, .int (nI i))] 20 [] := by
        intro n_20
        induction n_20 with
        | zero => intro i c tt g z1 r1 r2 hi hc1 ht hp hc hm_20; exact absurd hm_20 (Nat.not_lt_zero _)
        | succ n_20 ih_20 =>
          intro i c tt g z1 r1 r2 hi hc1 ht hp hc hm_20
          refine g_iload_n F 2 rfl dX11_net_20 ?_
          refine g_aload_n F 0 rfl dX11_net_21 ?_
          refine g_get F 11 0 0 inX11 rfl rfl (by decide) tw_fl_X11_50 rfl dX11_net_22 ?_
          refine n_icmp_ge F 74 dX11_net_25 (by decide) (by omega) (by omega) (fun c_25 => ?_) (fun c_25 => ?_)
          · refine g_aload_n F 0 rfl dX11_net_74 ?_
            refine g_get F 11 0 6 inX11 rfl rfl (by decide) tw_fl_X11_93 rfl dX11_net_75 ?_
            exact R _ ((g, bs2_5, z1, r1, r2, c)) _ _ dX11_net_78 (by (try dsimp only); exact (Or.inl ⟨r9, hr9, rfl, hlw, tt, ⟨fun a0 h0 => (ht a0 h0).2.2.1, hp, fun x1 hx => hc x1 (by have := hZ.2 x1 hx; omega) hx⟩, rfl, by omega, fun a0 h0 => ⟨(ht a0 h0).1, (ht a0 h0).2.1⟩⟩))
          · refine g_aload_n F 0 rfl dX11_net_28 ?_
            refine g_get F 11 0 5 inX11 rfl rfl (by decide) tw_fl_X11_19 rfl dX11_net_29 ?_
            refine g_iload_n F 2 rfl dX11_net_32 ?_
            refine g_zald F 4 rfl (by omega) (by decide) dX11_net_33 ?_
            refine g_top (bI (I i)) (hZ.1 i (by omega)) ?_
            refine b_if_eq F 46 dX11_net_34 (by decide) (fun c_34 => ?_) (fun c_34 => ?_)
            · refine g_aload_n F 0 rfl dX11_net_46 ?_
              refine g_get F 11 0 5 inX11 rfl rfl (by decide) tw_fl_X11_19 rfl dX11_net_47 ?_
              refine g_iload_n F 2 rfl dX11_net_50 ?_
              refine g_zald F 4 rfl (by omega) (by decide) dX11_net_51 ?_
              refine g_top (bI (I i)) (hZ.1 i (by omega)) ?_
              refine b_if_eq F 68 dX11_net_52 (by decide) (fun c_52 => ?_) (fun c_52 => ?_)
              · refine g_iinc F (nI (i + 1)) 2 2 [(0, .ref (A 0)), (1, .int (nI r9)), (2, .int (nI (i + 1)))] [1, 2, 0] dX11_net_68 rfl (n_inc i) (by decide) rfl ?_
                refine g_goto F 20 dX11_net_71 (by decide) ?_
                exact ih_20 (i + 1) c tt g z1 r1 r2 (by omega) (by omega) (fun a0 h0 => ⟨(ht a0 h0).1, (ht a0 h0).2.1, (ht a0 h0).2.2.1, by have := (ht a0 h0).2.2.2; omega⟩) (hp) (lt_s hc (fun z => by rw [c_34] at z; cases z)) (by omega)
              · exact absurd c_52 (by rw [c_34]; simp)
            · refine g_aload_n F 0 rfl dX11_net_37 ?_
              refine g_iload_n F 2 rfl dX11_net_38 ?_
              refine g_cVi F (wr := []) [] (c_X11_fromResults E A ln pl td zi r1 r2 g bs2_5 z1 al pp pw ph n kd c ps L tN I i tt (hK) (hZ) (by omega) (by omega) (fun j hj => ⟨(ht j hj).1, hI60 _ (ht j hj).2.2.1⟩)) (gi_V tw_ml_X11_116 tw_im_X11_fromResults tw_se_X11_fromResults tw_in_X11 tw_co_X11_fromResults) 1 rfl (by decide) ⟨rfl, rfl, by decide, by decide, Nat.zero_le _, Nat.zero_le _⟩ 11 0 rfl rfl [0, 1, 2, 3, 4, 5, 6, 7, 8, 9, 10, 11, 12, 13] [] [0, 1, 2, 3, 4, 5, 6, 7, 8, 9, 10, 11, 12, 13] (fun u => [ob (A 0) 11 [.int (nI n), .int (nI kd), .ref (A 1), .ref (A 2), .ref (A 3), .ref (A 4), .int (nI c), .ref (A 5), .ref (A 6), .ref (A 7), .ref (A 8), .ref (A 9), .ref (A 10), .ref (A 11), .int ps, .ref (A 12), .ref (A 13)], ia E (A 1) 60 ln, ia E (A 2) 480 pl, ia E (A 3) 3600 td, za E (A 4) 60 zi, ia E (A 5) 60 r1, ia E (A 6) 60 r2, ia E (A 7) 81 u, ia E (A 8) 3 bs2_5, za E (A 9) 60 z1, ia E (A 10) 3600 al, ia E (A 11) 60 pp, ia E (A 12) 60 pw, ia E (A 13) 60 ph]) rfl rfl (by decide) (fun _ => rfl) rfl (Nat.le_of_ble_eq_true rfl) dX11_net_39 (fun r_39 u hu_39 => ?_)
              revert hu_39; revert u; intro co_39 hu_39
              subst hu_39
              refine g_iload_n F 1 rfl dX11_net_42 ?_
              refine n_icmp_gt F 62 dX11_net_43 (by decide) (by have := mr_le (dsN kd L pl tN) i tt c; omega) (by omega) (fun c_43 => ?_) (fun c_43 => ?_)
              · have hgive : ∀ a0, a0 < c → r9 < dsN kd L pl tN i (tt a0) := fun a0 h0 => ((mr_gt c).mp c_43).2 a0 h0
                refine g_aload_n F 0 rfl dX11_net_62 ?_
                refine g_iload_n F 2 rfl dX11_net_63 ?_
                refine g_iconst F (nI 0) (by decide) dX11_net_64 ?_
                refine g_cVv F (wr := []) [] (c_X11_gives E A ln pl td zi r1 r2 co_39 bs2_5 z1 al pp pw ph n kd c ps L tN I i (nI 0) (hK) (hZ) (by omega) (by omega)) (gi_V tw_ml_X11_103 tw_im_X11_gives tw_se_X11_gives tw_in_X11 tw_co_X11_gives) 2 rfl (by decide) ⟨rfl, rfl, by decide, by decide, Nat.zero_le _, Nat.zero_le _⟩ 11 0 rfl rfl [0, 1, 2, 3, 4, 5, 6, 7, 8, 9, 10, 11, 12, 13] [] [0, 1, 2, 3, 4, 5, 6, 7, 8, 9, 10, 11, 12, 13] (fun u => [ob (A 0) 11 [.int (nI n), .int (nI kd), .ref (A 1), .ref (A 2), .ref (A 3), .ref (A 4), .int (nI (c + 1)), .ref (A 5), .ref (A 6), .ref (A 7), .ref (A 8), .ref (A 9), .ref (A 10), .ref (A 11), .int ps, .ref (A 12), .ref (A 13)], ia E (A 1) 60 ln, ia E (A 2) 480 pl, ia E (A 3) 3600 td, za E (A 4) 60 zi, ia E (A 5) 60 (upd r1 c (nI i)), ia E (A 6) 60 (upd r2 c (nI 0)), ia E (A 7) 81 co_39, ia E (A 8) 3 bs2_5, za E (A 9) 60 (upd z1 i (nI 1)), ia E (A 10) 3600 al, ia E (A 11) 60 pp, ia E (A 12) 60 pw, ia E (A 13) 60 ph]) rfl rfl (by decide) (fun _ => rfl) rfl (Nat.le_of_ble_eq_true rfl) dX11_net_65 (fun u hu_65 => ?_)
                refine g_iinc F (nI (i + 1)) 2 2 [(0, .ref (A 0)), (1, .int (nI r9)), (2, .int (nI (i + 1)))] [1, 2, 0] dX11_net_68 rfl (n_inc i) (by decide) rfl ?_
                refine g_goto F 20 dX11_net_71 (by decide) ?_
                exact ih_20 (i + 1) (c + 1) (setN tt c i) co_39 (upd z1 i (nI 1)) (upd r1 c (nI i)) (upd r2 c (nI 0)) (by omega) (by omega) (lt_s (fun a0 h0 => by
                    rw [pk_un (by omega), pk_un (by omega), setN_n (by omega)]
                    exact ⟨(ht a0 h0).1, (ht a0 h0).2.1, (ht a0 h0).2.2.1, by have := (ht a0 h0).2.2.2; omega⟩) ⟨by rw [pk_us, setN_s], pk_us, by rw [setN_s]; exact c_34, by rw [setN_s]; omega⟩) (fun a0 a1 h0 h1 => by
                    rcases Nat.lt_or_ge a1 c with q | q
                    · rw [setN_n (by omega), setN_n (by omega)]; exact hp a0 a1 h0 q
                    · rw [show a1 = c by omega, setN_s, setN_n (by omega)]
                      exact ⟨(ht a0 (by omega)).2.2.2, hgive a0 (by omega)⟩) (lt_s (fun x1 h0 hx => by
                    rcases hc x1 h0 hx with ⟨a0, q1, q2⟩ | ⟨a0, q1, q2, q3⟩
                    · exact Or.inl ⟨a0, by omega, by rw [setN_n (by omega)]; exact q2⟩
                    · exact Or.inr ⟨a0, by omega, by rw [setN_n (by omega)]; exact q2, by rw [setN_n (by omega)]; exact q3⟩) (fun _ => Or.inl ⟨c, by omega, setN_s tt c i⟩)) (by omega)
              · refine g_aload_n F 0 rfl dX11_net_46 ?_
                refine g_get F 11 0 5 inX11 rfl rfl (by decide) tw_fl_X11_19 rfl dX11_net_47 ?_
                refine g_iload_n F 2 rfl dX11_net_50 ?_
                refine g_zald F 4 rfl (by omega) (by decide) dX11_net_51 ?_
                refine g_top (bI (I i)) (hZ.1 i (by omega)) ?_
                refine b_if_eq F 68 dX11_net_52 (by decide) (fun c_52 => ?_) (fun c_52 => ?_)
                · exact absurd c_34 (by rw [c_52]; simp)
                · refine g_aload_n F 0 rfl dX11_net_55 ?_
                  refine g_get F 11 0 6 inX11 rfl rfl (by decide) tw_fl_X11_93 rfl dX11_net_56 ?_
                  refine n_if_ne F 68 dX11_net_59 (by decide) (by omega) (fun c_59 => ?_) (fun c_59 => ?_)
                  · have hskip : ∃ a0, a0 < c ∧ tt a0 < i ∧ dsN kd L pl tN i (tt a0) ≤ r9 := by
                        apply Classical.byContradiction
                        intro z
                        have all : ∀ a0, a0 < c → r9 < dsN kd L pl tN i (tt a0) := fun a0 h0 => Classical.byContradiction (fun y => z ⟨a0, h0, (ht a0 h0).2.2.2, by omega⟩)
                        rcases Nat.lt_or_ge r9 2147483647 with q | q
                        · have := (mr_gt (dd := dsN kd L pl tN) (x := i) (r := r9) (t := tt) c).mpr ⟨q, all⟩
                          omega
                        · have a1 := all 0 (by omega)
                          have a2 := ds_le (kd := kd) (a := i) (b := tt 0) hK.2.2.1 hK.2.2.2.1 hK.2.2.2.2.1 (by omega) (hI60 _ (ht 0 (by omega)).2.2.1)
                          omega
                    refine g_iinc F (nI (i + 1)) 2 2 [(0, .ref (A 0)), (1, .int (nI r9)), (2, .int (nI (i + 1)))] [1, 2, 0] dX11_net_68 rfl (n_inc i) (by decide) rfl ?_
                    refine g_goto F 20 dX11_net_71 (by decide) ?_
                    exact ih_20 (i + 1) c tt co_39 z1 r1 r2 (by omega) (by omega) (fun a0 h0 => ⟨(ht a0 h0).1, (ht a0 h0).2.1, (ht a0 h0).2.2.1, by have := (ht a0 h0).2.2.2; omega⟩) (hp) (lt_s hc (fun _ => Or.inr hskip)) (by omega)
                  · have hgive : ∀ a0, a0 < c → r9 < dsN kd L pl tN i (tt a0) := fun a0 h0 => absurd h0 (by omega)
                    refine g_aload_n F 0 rfl dX11_net_62 ?_
                    refine g_iload_n F 2 rfl dX11_net_63 ?_
                    refine g_iconst F (nI 0) (by decide) dX11_net_64 ?_
                    refine g_cVv F (wr := []) [] (c_X11_gives E A ln pl td zi r1 r2 co_39 bs2_5 z1 al pp pw ph n kd c ps L tN I i (nI 0) (hK) (hZ) (by omega) (by omega)) (gi_V tw_ml_X11_103 tw_im_X11_gives tw_se_X11_gives tw_in_X11 tw_co_X11_gives) 2 rfl (by decide) ⟨rfl, rfl, by decide, by decide, Nat.zero_le _, Nat.zero_le _⟩ 11 0 rfl rfl [0, 1, 2, 3, 4, 5, 6, 7, 8, 9, 10, 11, 12, 13] [] [0, 1, 2, 3, 4, 5, 6, 7, 8, 9, 10, 11, 12, 13] (fun u => [ob (A 0) 11 [.int (nI n), .int (nI kd), .ref (A 1), .ref (A 2), .ref (A 3), .ref (A 4), .int (nI (c + 1)), .ref (A 5), .ref (A 6), .ref (A 7), .ref (A 8), .ref (A 9), .ref (A 10), .ref (A 11), .int ps, .ref (A 12), .ref (A 13)], ia E (A 1) 60 ln, ia E (A 2) 480 pl, ia E (A 3) 3600 td, za E (A 4) 60 zi, ia E (A 5) 60 (upd r1 c (nI i)), ia E (A 6) 60 (upd r2 c (nI 0)), ia E (A 7) 81 co_39, ia E (A 8) 3 bs2_5, za E (A 9) 60 (upd z1 i (nI 1)), ia E (A 10) 3600 al, ia E (A 11) 60 pp, ia E (A 12) 60 pw, ia E (A 13) 60 ph]) rfl rfl (by decide) (fun _ => rfl) rfl (Nat.le_of_ble_eq_true rfl) dX11_net_65 (fun u hu_65 => ?_)
                    refine g_iinc F (nI (i + 1)) 2 2 [(0, .ref (A 0)), (1, .int (nI r9)), (2, .int (nI (i + 1)))] [1, 2, 0] dX11_net_68 rfl (n_inc i) (by decide) rfl ?_
                    refine g_goto F 20 dX11_net_71 (by decide) ?_
                    exact ih_20 (i + 1) (c + 1) (setN tt c i) co_39 (upd z1 i (nI 1)) (upd r1 c (nI i)) (upd r2 c (nI 0)) (by omega) (by omega) (lt_s (fun a0 h0 => by
                        rw [pk_un (by omega), pk_un (by omega), setN_n (by omega)]
                        exact ⟨(ht a0 h0).1, (ht a0 h0).2.1, (ht a0 h0).2.2.1, by have := (ht a0 h0).2.2.2; omega⟩) ⟨by rw [pk_us, setN_s], pk_us, by rw [setN_s]; exact c_34, by rw [setN_s]; omega⟩) (fun a0 a1 h0 h1 => by
                        rcases Nat.lt_or_ge a1 c with q | q
                        · rw [setN_n (by omega), setN_n (by omega)]; exact hp a0 a1 h0 q
                        · rw [show a1 = c by omega, setN_s, setN_n (by omega)]
                          exact ⟨(ht a0 (by omega)).2.2.2, hgive a0 (by omega)⟩) (lt_s (fun x1 h0 hx => by
                        rcases hc x1 h0 hx with ⟨a0, q1, q2⟩ | ⟨a0, q1, q2, q3⟩
                        · exact Or.inl ⟨a0, by omega, by rw [setN_n (by omega)]; exact q2⟩
                        · exact Or.inr ⟨a0, by omega, by rw [setN_n (by omega)]; exact q2, by rw [setN_n (by omega)]; exact q3⟩) (fun _ => Or.inl ⟨c, by omega, setN_s tt c i⟩)) (by omega)
      exact lp_20 _ 0 0 (fun _ => 0) co zt rf rg (by omega) (by omega) (fun a0 h => absurd h (Nat.not_lt_zero a0)) (fun a0 a1 _ h => absurd h (Nat.not_lt_zero a1)) (fun x1 h => absurd h (Nat.not_lt_zero x1)) (Nat.lt_succ_self _)
    · refine g_if_ne F 13 dX11_net_8 (by decide) (fun h => absurd (by decide) h) (fun _ => ?_)
      refine g_iconst F (-1) (by decide) dX11_net_11 ?_
      exact R _ ((co, bs2_5, zt, rf, rg, rk)) _ _ dX11_net_12 (by (try dsimp only); exact (Or.inr ⟨fun _ _ _ => lwk_no hk5 htb, rfl, rfl, rfl, rfl⟩))

set_option maxHeartbeats 4000000 in
set_option maxRecDepth 100000 in
theorem c_X11_middle (E : Ev) (A : Nat → Nat) (ln : Nat → Int32) (pl : Nat → Int32) (td : Nat → Int32) (zi : Nat → Int32) (rf : Nat → Int32) (rg : Nat → Int32) (co : Nat → Int32) (bs : Nat → Int32) (zt : Nat → Int32) (al : Nat → Int32) (pp : Nat → Int32) (pw : Nat → Int32) (ph : Nat → Int32) (n : Nat) (kd : Nat) (rk : Nat) (ps : Int32) (L : Nat → Nat) (tN : Nat → Nat) (I : Nat → Bool) (rt : Nat → Nat) (ra : Nat → Nat) (x : Int32) (hK : MDK n kd L ln pl tN td) (hZ : ZI n zi I) (hR : NBR rk rf rg rt ra) : CTl E yX11_middle (wq yX11_middle cX11_middle 9 (some .long)) (rmk 3 75) [.ref (A 0), .int x] [ob (A 0) 11 [.int (nI n), .int (nI kd), .ref (A 1), .ref (A 2), .ref (A 3), .ref (A 4), .int (nI rk), .ref (A 5), .ref (A 6), .ref (A 7), .ref (A 8), .ref (A 9), .ref (A 10), .ref (A 11), .int ps, .ref (A 12), .ref (A 13)], ia E (A 1) 60 ln, ia E (A 2) 480 pl, ia E (A 3) 3600 td, za E (A 4) 60 zi, ia E (A 5) 60 rf, ia E (A 6) 60 rg, ia E (A 7) 81 co, ia E (A 8) 3 bs, za E (A 9) 60 zt, ia E (A 10) 3600 al, ia E (A 11) 60 pp, ia E (A 12) 60 pw, ia E (A 13) 60 ph] (fun (r : Int64) (u : (Nat → Int32) × (Nat → Int32)) => (∃ w0, w0 ≤ 1 ∧ x = nI w0 ∧ cI I n ≠ 0 ∧ LWK kd tN n ∧ ∃ m0, MID (fun t => sumI (fun q => dsN kd L pl tN t q) I n) I m0 ∧ r = if w0 = 0 then lN m0 else lN (sumI (fun q => dsN kd L pl tN m0 q) I n)) ∨ (((∀ w0, w0 ≤ 1 → x ≠ nI w0) ∨ cI I n = 0 ∨ ¬ LWK kd tN n) ∧ r = -1)) (fun (u : (Nat → Int32) × (Nat → Int32)) => [ob (A 0) 11 [.int (nI n), .int (nI kd), .ref (A 1), .ref (A 2), .ref (A 3), .ref (A 4), .int (nI rk), .ref (A 5), .ref (A 6), .ref (A 7), .ref (A 8), .ref (A 9), .ref (A 10), .ref (A 11), .int ps, .ref (A 12), .ref (A 13)], ia E (A 1) 60 ln, ia E (A 2) 480 pl, ia E (A 3) 3600 td, za E (A 4) 60 zi, ia E (A 5) 60 rf, ia E (A 6) 60 rg, ia E (A 7) 81 u.1, ia E (A 8) 3 u.2, za E (A 9) 60 zt, ia E (A 10) 3600 al, ia E (A 11) 60 pp, ia E (A 12) 60 pw, ia E (A 13) 60 ph]) := by
  refine CTl.of (by decide) (Nat.le_of_ble_eq_true rfl) (fun X F R => ?_)
  refine g_lv [0, 1] [(0, .ref (A 0)), (1, .int x)] rfl ?_
  have hn60 := hK.1
  have hI60 : ∀ t, I t = true → t < 60 := fun t ht => Nat.lt_of_lt_of_le (hZ.2 t ht) hn60
  have hsb := fun t9 (ht9 : t9 < 60) => sumI_le (g := fun q => dsN kd L pl tN t9 q) (I := I) (M := 100000) n (fun q9 h8 h9 => ds_le (kd := kd) hK.2.2.1 hK.2.2.2.1 hK.2.2.2.2.1 ht9 (by omega))
  have hcl := cI_le (I := I) n
  refine g_iload_n F 1 rfl dX11_middle_0 ?_
  refine g_iconst F (nI 0) (by decide) dX11_middle_1 ?_
  refine g_iconst F (nI 1) (by decide) dX11_middle_2 ?_
  refine g_cSi F (wr := [ob (A 0) 11 [.int (nI n), .int (nI kd), .ref (A 1), .ref (A 2), .ref (A 3), .ref (A 4), .int (nI rk), .ref (A 5), .ref (A 6), .ref (A 7), .ref (A 8), .ref (A 9), .ref (A 10), .ref (A 11), .int ps, .ref (A 12), .ref (A 13)], ia E (A 1) 60 ln, ia E (A 2) 480 pl, ia E (A 3) 3600 td, za E (A 4) 60 zi, ia E (A 5) 60 rf, ia E (A 6) 60 rg, ia E (A 7) 81 co, ia E (A 8) 3 bs, za E (A 9) 60 zt, ia E (A 10) 3600 al, ia E (A 11) 60 pp, ia E (A 12) 60 pw, ia E (A 13) 60 ph]) [] (c_X11_lies E x (nI 0) (nI 1) ) ⟨tw_ml_X11_54, tw_sm_X11_lies, tw_in_X11, tw_co_X11_lies⟩ 3 rfl (by decide) ⟨rfl, rfl, by decide, by decide, Nat.zero_le _, Nat.zero_le _⟩ [] [0, 1, 2, 3, 4, 5, 6, 7, 8, 9, 10, 11, 12, 13] [0, 1, 2, 3, 4, 5, 6, 7, 8, 9, 10, 11, 12, 13] (fun u => [ob (A 0) 11 [.int (nI n), .int (nI kd), .ref (A 1), .ref (A 2), .ref (A 3), .ref (A 4), .int (nI rk), .ref (A 5), .ref (A 6), .ref (A 7), .ref (A 8), .ref (A 9), .ref (A 10), .ref (A 11), .int ps, .ref (A 12), .ref (A 13)], ia E (A 1) 60 ln, ia E (A 2) 480 pl, ia E (A 3) 3600 td, za E (A 4) 60 zi, ia E (A 5) 60 rf, ia E (A 6) 60 rg, ia E (A 7) 81 co, ia E (A 8) 3 bs, za E (A 9) 60 zt, ia E (A 10) 3600 al, ia E (A 11) 60 pp, ia E (A 12) 60 pw, ia E (A 13) 60 ph]) rfl rfl (by decide) (fun _ => rfl) rfl (Nat.le_of_ble_eq_true rfl) dX11_middle_3 (fun r_3 u hu_3 => ?_)
  rcases hu_3 with ⟨rfl, l1_3, l2_3⟩ | ⟨rfl, l0_3⟩
  · refine g_if_eq F 23 dX11_middle_6 (by decide) (fun h => absurd h (by decide)) (fun _ => ?_)
    refine g_aload_n F 0 rfl dX11_middle_9 ?_
    refine g_rVi F (wr := []) [] (c_X11_inBook E A ln pl td zi rf rg co bs zt al pp pw ph n kd rk ps L tN I (hK) (hZ)) (gi_V tw_ml_X11_112 tw_im_X11_inBook tw_se_X11_inBook tw_in_X11 tw_co_X11_inBook) 0 rfl (by decide) ⟨rfl, rfl, by decide, by decide, Nat.zero_le _, Nat.zero_le _⟩ 11 0 rfl rfl [0, 1, 2, 3, 4, 5, 6, 7, 8, 9, 10, 11, 12, 13] [] [0, 1, 2, 3, 4, 5, 6, 7, 8, 9, 10, 11, 12, 13] rfl rfl (by decide) rfl rfl (Nat.le_of_ble_eq_true rfl) dX11_middle_10 ?_
    refine n_if_eq F 23 dX11_middle_13 (by decide) (by omega) (fun c_13 => ?_) (fun c_13 => ?_)
    · refine g_ldc2 F tw_cl2_X11_135 dX11_middle_23 ?_
      exact R _ ((co, bs)) _ _ dX11_middle_26 (by (try dsimp only); exact (Or.inr ⟨Or.inr (Or.inl c_13), rfl⟩))
    · refine g_aload_n F 0 rfl dX11_middle_16 ?_
      refine g_cVi F (wr := []) [] (c_X11_holds E A ln pl td zi rf rg co bs zt al pp pw ph n kd rk ps L tN I (hK) (hZ)) (gi_V tw_ml_X11_89 tw_im_X11_holds tw_se_X11_holds tw_in_X11 tw_co_X11_holds) 0 rfl (by decide) ⟨rfl, rfl, by decide, by decide, Nat.zero_le _, Nat.zero_le _⟩ 11 0 rfl rfl [0, 1, 2, 3, 4, 5, 6, 7, 8, 9, 10, 11, 12, 13] [] [0, 1, 2, 3, 4, 5, 6, 7, 8, 9, 10, 11, 12, 13] (fun u => [ob (A 0) 11 [.int (nI n), .int (nI kd), .ref (A 1), .ref (A 2), .ref (A 3), .ref (A 4), .int (nI rk), .ref (A 5), .ref (A 6), .ref (A 7), .ref (A 8), .ref (A 9), .ref (A 10), .ref (A 11), .int ps, .ref (A 12), .ref (A 13)], ia E (A 1) 60 ln, ia E (A 2) 480 pl, ia E (A 3) 3600 td, za E (A 4) 60 zi, ia E (A 5) 60 rf, ia E (A 6) 60 rg, ia E (A 7) 81 co, ia E (A 8) 3 u, za E (A 9) 60 zt, ia E (A 10) 3600 al, ia E (A 11) 60 pp, ia E (A 12) 60 pw, ia E (A 13) 60 ph]) rfl rfl (by decide) (fun _ => rfl) rfl (Nat.le_of_ble_eq_true rfl) dX11_middle_17 (fun r_17 u hu_17 => ?_)
      revert hu_17; revert u; intro bs2_17 hu_17
      rcases hu_17 with ⟨rfl, hlw⟩ | ⟨rfl, hk5, htb⟩
      · refine g_if_ne F 27 dX11_middle_20 (by decide) (fun _ => ?_) (fun h => absurd h (by decide))
        obtain ⟨w0, hw0, rfl⟩ := lie_r (hi := 1) (by decide) l1_3 l2_3
        refine g_iconst F (-1) (by decide) dX11_middle_27 ?_
        refine g_istore_n F 2 [(0, .ref (A 0)), (1, .int (nI w0)), (2, .int (-1))] [1, 2, 0] dX11_middle_28 rfl (by decide) rfl ?_
        refine g_lconst F (lN 0) rfl dX11_middle_29 ?_
        refine g_lstore_n F 3 [(0, .ref (A 0)), (1, .int (nI w0)), (2, .int (-1)), (3, .long (lN 0))] [1, 2, 3, 0] dX11_middle_30 rfl (by decide) rfl ?_
        refine g_iconst F (nI 0) (by decide) dX11_middle_31 ?_
        refine g_istore F 5 [(0, .ref (A 0)), (1, .int (nI w0)), (2, .int (-1)), (3, .long (lN 0)), (5, .int (nI 0))] [1, 2, 3, 4, 0] dX11_middle_32 (by decide) rfl ?_
        have lp_34 : ∀ (n_34 : Nat) (i : Nat) (w : Int32) (ls : Nat) (g : Nat → Int32), (i ≤ n) → (NXP (fun t => sumI (fun q => dsN kd L pl tN t q) I n * 60 + t) I (fun _ => false) i w) → (∀ s, w = nI s → s < 60 → ls = sumI (fun q => dsN kd L pl tN s q) I n) → n - i < n_34 → GW E X 0 0 [ob (A 0) 11 [.int (nI n), .int (nI kd), .ref (A 1), .ref (A 2), .ref (A 3), .ref (A 4), .int (nI rk), .ref (A 5), .ref (A 6), .ref (A 7), .ref (A 8), .ref (A 9), .ref (A 10), .ref (A 11), .int ps, .ref (A 12), .ref (A 13)], ia E (A 1) 60 ln, ia E (A 2) 480 pl, ia E (A 3) 3600 td, za E (A 4) 60 zi, ia E (A 5) 60 rf, ia E (A 6) 60 rg, ia E (A 7) 81 g, ia E (A 8) 3 bs2_17, za E (A 9) 60 zt, ia E (A 10) 3600 al, ia E (A 11) 60 pp, ia E (A 12) 60 pw, ia E (A 13) 60 ph] [(0, .ref (A 0)), (1, .int (nI w0)), (2, .int w), (3, .long (lN ls)), (5, .int (nI i))] 34 [] := by
          intro n_34
          induction n_34 with
          | zero => intro i w ls g hi hw hls hm_34; exact absurd hm_34 (Nat.not_lt_zero _)
          | succ n_34 ih_34 =>
            intro i w ls g hi hw hls hm_34
            refine g_iload F 4 rfl dX11_middle_34 ?_
            refine g_aload_n F 0 rfl dX11_middle_36 ?_
            refine g_get F 11 0 0 inX11 rfl rfl (by decide) tw_fl_X11_50 rfl dX11_middle_37 ?_
            refine n_icmp_ge F 132 dX11_middle_40 (by decide) (by omega) (by omega) (fun c_40 => ?_) (fun c_40 => ?_)
            · have hnx := nx_fin hZ (show NXP (fun t => sumI (fun q => dsN kd L pl tN t q) I n * 60 + t) I (fun _ => false) n w from (show i = n by omega) ▸ hw)
              obtain ⟨s, rfl, hs2, hs3, hs4⟩ := hnx.resolve_left (fun z => by
                  obtain ⟨t9, h8, h9⟩ := cI_find (I := I) n (by omega)
                  have := z.2 t9 h9
                  simp at this)
              have hs60 := hI60 s hs2
              have hl9 := hls s rfl hs60
              subst hl9
              refine g_iload_n F 1 rfl dX11_middle_132 ?_
              refine n_if_ne F 141 dX11_middle_133 (by decide) (by omega) (fun c_133 => ?_) (fun c_133 => ?_)
              · refine g_lload_n F 3 rfl dX11_middle_141 ?_
                exact R _ ((g, bs2_17)) _ _ dX11_middle_142 (by (try dsimp only); exact (Or.inl ⟨w0, hw0, rfl, c_13, hlw, s, ⟨hs2, fun y1 hy => by
                    have e9 : sumI (fun q => dsN kd L pl tN s q) I n * 60 + s ≤ sumI (fun q => dsN kd L pl tN y1 q) I n * 60 + y1 := hs4 y1 hy rfl
                    have := hI60 y1 hy
                    show sumI (fun q => dsN kd L pl tN s q) I n < sumI (fun q => dsN kd L pl tN y1 q) I n ∨ (sumI (fun q => dsN kd L pl tN s q) I n = sumI (fun q => dsN kd L pl tN y1 q) I n ∧ s ≤ y1)
                    omega⟩, by rw [if_neg c_133]⟩))
              · refine g_iload_n F 2 rfl dX11_middle_136 ?_
                refine g_i2l F (lN s) (nI_l (by omega)) dX11_middle_137 ?_
                refine g_goto F 142 dX11_middle_138 (by decide) ?_
                exact R _ ((g, bs2_17)) _ _ dX11_middle_142 (by (try dsimp only); exact (Or.inl ⟨w0, hw0, rfl, c_13, hlw, s, ⟨hs2, fun y1 hy => by
                    have e9 : sumI (fun q => dsN kd L pl tN s q) I n * 60 + s ≤ sumI (fun q => dsN kd L pl tN y1 q) I n * 60 + y1 := hs4 y1 hy rfl
                    have := hI60 y1 hy
                    show sumI (fun q => dsN kd L pl tN s q) I n < sumI (fun q => dsN kd L pl tN y1 q) I n ∨ (sumI (fun q => dsN kd L pl tN s q) I n = sumI (fun q => dsN kd L pl tN y1 q) I n ∧ s ≤ y1)
                    omega⟩, by rw [if_pos c_133]⟩))
            · refine g_aload_n F 0 rfl dX11_middle_43 ?_
              refine g_get F 11 0 5 inX11 rfl rfl (by decide) tw_fl_X11_19 rfl dX11_middle_44 ?_
              refine g_iload F 4 rfl dX11_middle_47 ?_
              refine g_zald F 4 rfl (by omega) (by decide) dX11_middle_49 ?_
              refine g_top (bI (I i)) (hZ.1 i (by omega)) ?_
              refine b_if_ne F 56 dX11_middle_50 (by decide) (fun c_50 => ?_) (fun c_50 => ?_)
              · refine g_lconst F (lN 0) rfl dX11_middle_56 ?_
                refine g_lstore F 6 [(0, .ref (A 0)), (1, .int (nI w0)), (2, .int w), (3, .long (lN ls)), (5, .int (nI i)), (6, .long (lN 0))] [1, 2, 3, 4, 5, 0] dX11_middle_57 (by decide) rfl ?_
                refine g_iconst F (nI 0) (by decide) dX11_middle_59 ?_
                refine g_istore F 8 [(0, .ref (A 0)), (1, .int (nI w0)), (2, .int w), (3, .long (lN ls)), (5, .int (nI i)), (6, .long (lN 0)), (8, .int (nI 0))] [1, 2, 3, 4, 5, 6, 0] dX11_middle_60 (by decide) rfl ?_
                have lp_62 : ∀ (n_62 : Nat) (j : Nat) (g2 : Nat → Int32), (j ≤ n) → n - j < n_62 → GW E X 0 0 [ob (A 0) 11 [.int (nI n), .int (nI kd), .ref (A 1), .ref (A 2), .ref (A 3), .ref (A 4), .int (nI rk), .ref (A 5), .ref (A 6), .ref (A 7), .ref (A 8), .ref (A 9), .ref (A 10), .ref (A 11), .int ps, .ref (A 12), .ref (A 13)], ia E (A 1) 60 ln, ia E (A 2) 480 pl, ia E (A 3) 3600 td, za E (A 4) 60 zi, ia E (A 5) 60 rf, ia E (A 6) 60 rg, ia E (A 7) 81 g2, ia E (A 8) 3 bs2_17, za E (A 9) 60 zt, ia E (A 10) 3600 al, ia E (A 11) 60 pp, ia E (A 12) 60 pw, ia E (A 13) 60 ph] [(0, .ref (A 0)), (1, .int (nI w0)), (2, .int w), (3, .long (lN ls)), (5, .int (nI i)), (6, .long (lN (sumI (fun q => dsN kd L pl tN i q) I j))), (8, .int (nI j))] 62 [] := by
                  intro n_62
                  induction n_62 with
                  | zero => intro j g2 hj hm_62; exact absurd hm_62 (Nat.not_lt_zero _)
                  | succ n_62 ih_62 =>
                    intro j g2 hj hm_62
                    refine g_iload F 6 rfl dX11_middle_62 ?_
                    refine g_aload_n F 0 rfl dX11_middle_64 ?_
                    refine g_get F 11 0 0 inX11 rfl rfl (by decide) tw_fl_X11_50 rfl dX11_middle_65 ?_
                    refine n_icmp_ge F 105 dX11_middle_68 (by decide) (by omega) (by omega) (fun c_68 => ?_) (fun c_68 => ?_)
                    · obtain rfl : n = j := by omega
                      have hsi := hsb i (by omega)
                      refine g_iload_n F 2 rfl dX11_middle_105 ?_
                      refine g_iconst F (-1) (by decide) dX11_middle_106 ?_
                      refine g_icmp_eq F 120 dX11_middle_107 (by decide) (fun c_107 => ?_) (fun c_107 => ?_)
                      · refine g_iload F 4 rfl dX11_middle_120 ?_
                        refine g_istore_n F 2 [(0, .ref (A 0)), (1, .int (nI w0)), (2, .int (nI i)), (3, .long (lN ls)), (5, .int (nI i)), (6, .long (lN (sumI (fun q => dsN kd L pl tN i q) I n))), (8, .int (nI n))] [1, 2, 0, 3, 4, 5, 6] dX11_middle_122 rfl (by decide) rfl ?_
                        refine g_lload F 5 rfl dX11_middle_123 ?_
                        refine g_lstore_n F 3 [(0, .ref (A 0)), (1, .int (nI w0)), (2, .int (nI i)), (3, .long (lN (sumI (fun q => dsN kd L pl tN i q) I n))), (5, .int (nI i)), (6, .long (lN (sumI (fun q => dsN kd L pl tN i q) I n))), (8, .int (nI n))] [1, 2, 3, 0, 4, 5, 6] dX11_middle_125 rfl (by decide) rfl ?_
                        refine g_iinc F (nI (i + 1)) 5 4 [(0, .ref (A 0)), (1, .int (nI w0)), (2, .int (nI i)), (3, .long (lN (sumI (fun q => dsN kd L pl tN i q) I n))), (5, .int (nI (i + 1))), (6, .long (lN (sumI (fun q => dsN kd L pl tN i q) I n))), (8, .int (nI n))] [1, 2, 3, 4, 0, 5, 6] dX11_middle_126 rfl (n_inc i) (by decide) rfl ?_
                        refine g_goto F 34 dX11_middle_129 (by decide) ?_
                        refine g_lv [0, 1, 2, 3, 4] [(0, .ref (A 0)), (1, .int (nI w0)), (2, .int (nI i)), (3, .long (lN (sumI (fun q => dsN kd L pl tN i q) I n))), (5, .int (nI (i + 1)))] rfl ?_
                        exact ih_34 (i + 1) (nI i) (sumI (fun q => dsN kd L pl tN i q) I n) g2 (by omega) (nx_new hw c_107 c_50 rfl (by omega)) (fun s1 e1 h1 => by rw [← (nI_eq (by omega) (by omega)).mp e1]) (by omega)
                      · obtain ⟨s, rfl, hs1, hs2, hs3, hs4⟩ := hw.resolve_left (fun z => c_107 z.1)
                        have hs60 := hI60 s hs2
                        have hss := hsb s hs60
                        have hl9 := hls s rfl hs60
                        refine g_lload F 5 rfl dX11_middle_110 ?_
                        refine g_lload_n F 3 rfl dX11_middle_112 ?_
                        refine g_lcmp F dX11_middle_113 ?_
                        refine g_if_lt F 120 dX11_middle_114 (by decide) (fun c_114 => ?_) (fun c_114 => ?_)
                        · have hcm : sumI (fun q => dsN kd L pl tN i q) I n < ls := by
                              rw [lg_cmp_lt, pk_lLT (by omega) (by omega)] at c_114
                              omega
                          refine g_iload F 4 rfl dX11_middle_120 ?_
                          refine g_istore_n F 2 [(0, .ref (A 0)), (1, .int (nI w0)), (2, .int (nI i)), (3, .long (lN ls)), (5, .int (nI i)), (6, .long (lN (sumI (fun q => dsN kd L pl tN i q) I n))), (8, .int (nI n))] [1, 2, 0, 3, 4, 5, 6] dX11_middle_122 rfl (by decide) rfl ?_
                          refine g_lload F 5 rfl dX11_middle_123 ?_
                          refine g_lstore_n F 3 [(0, .ref (A 0)), (1, .int (nI w0)), (2, .int (nI i)), (3, .long (lN (sumI (fun q => dsN kd L pl tN i q) I n))), (5, .int (nI i)), (6, .long (lN (sumI (fun q => dsN kd L pl tN i q) I n))), (8, .int (nI n))] [1, 2, 3, 0, 4, 5, 6] dX11_middle_125 rfl (by decide) rfl ?_
                          refine g_iinc F (nI (i + 1)) 5 4 [(0, .ref (A 0)), (1, .int (nI w0)), (2, .int (nI i)), (3, .long (lN (sumI (fun q => dsN kd L pl tN i q) I n))), (5, .int (nI (i + 1))), (6, .long (lN (sumI (fun q => dsN kd L pl tN i q) I n))), (8, .int (nI n))] [1, 2, 3, 4, 0, 5, 6] dX11_middle_126 rfl (n_inc i) (by decide) rfl ?_
                          refine g_goto F 34 dX11_middle_129 (by decide) ?_
                          refine g_lv [0, 1, 2, 3, 4] [(0, .ref (A 0)), (1, .int (nI w0)), (2, .int (nI i)), (3, .long (lN (sumI (fun q => dsN kd L pl tN i q) I n))), (5, .int (nI (i + 1)))] rfl ?_
                          exact ih_34 (i + 1) (nI i) (sumI (fun q => dsN kd L pl tN i q) I n) g2 (by omega) (nx_take c_50 rfl hs4 (by
                              show _ * 60 + _ ≤ _ * 60 + _
                              omega)) (fun s1 e1 h1 => by rw [← (nI_eq (by omega) (by omega)).mp e1]) (by omega)
                        · have hcm : ls ≤ sumI (fun q => dsN kd L pl tN i q) I n := by
                              rw [lg_cmp_lt, pk_lLT (by omega) (by omega)] at c_114
                              omega
                          refine g_goto F 126 dX11_middle_117 (by decide) ?_
                          refine g_iinc F (nI (i + 1)) 5 4 [(0, .ref (A 0)), (1, .int (nI w0)), (2, .int (nI s)), (3, .long (lN ls)), (5, .int (nI (i + 1))), (6, .long (lN (sumI (fun q => dsN kd L pl tN i q) I n))), (8, .int (nI n))] [1, 2, 3, 4, 0, 5, 6] dX11_middle_126 rfl (n_inc i) (by decide) rfl ?_
                          refine g_goto F 34 dX11_middle_129 (by decide) ?_
                          refine g_lv [0, 1, 2, 3, 4] [(0, .ref (A 0)), (1, .int (nI w0)), (2, .int (nI s)), (3, .long (lN ls)), (5, .int (nI (i + 1)))] rfl ?_
                          exact ih_34 (i + 1) (nI s) ls g2 (by omega) (nx_keep hs1 hs2 rfl hs4 (by
                              show _ * 60 + _ ≤ _ * 60 + _
                              omega)) (hls) (by omega)
                    · refine g_lload F 5 rfl dX11_middle_71 ?_
                      refine g_aload_n F 0 rfl dX11_middle_73 ?_
                      refine g_get F 11 0 5 inX11 rfl rfl (by decide) tw_fl_X11_19 rfl dX11_middle_74 ?_
                      refine g_iload F 6 rfl dX11_middle_77 ?_
                      refine g_zald F 4 rfl (by omega) (by decide) dX11_middle_79 ?_
                      refine g_top (bI (I j)) (hZ.1 j (by omega)) ?_
                      refine b_if_eq F 95 dX11_middle_80 (by decide) (fun c_80 => ?_) (fun c_80 => ?_)
                      · refine g_lconst F (lN 0) rfl dX11_middle_95 ?_
                        refine g_ladd F dX11_middle_96 ?_
                        refine g_topl (lN (sumI (fun q => dsN kd L pl tN i q) I (j + 1))) (by rw [lN_add]; exact congrArg lN (by first | (have h9 : I j = true := c_80; exact sumI_1 (g := fun q => dsN kd L pl tN i q) h9) | (have h9 : I j = false := c_80; exact sumI_0 h9))) ?_
                        refine g_lstore F 6 [(0, .ref (A 0)), (1, .int (nI w0)), (2, .int w), (3, .long (lN ls)), (5, .int (nI i)), (6, .long (lN (sumI (fun q => dsN kd L pl tN i q) I (j + 1)))), (8, .int (nI j))] [1, 2, 3, 4, 5, 0, 6] dX11_middle_97 (by decide) rfl ?_
                        refine g_iinc F (nI (j + 1)) 8 6 [(0, .ref (A 0)), (1, .int (nI w0)), (2, .int w), (3, .long (lN ls)), (5, .int (nI i)), (6, .long (lN (sumI (fun q => dsN kd L pl tN i q) I (j + 1)))), (8, .int (nI (j + 1)))] [1, 2, 3, 4, 5, 6, 0] dX11_middle_99 rfl (n_inc j) (by decide) rfl ?_
                        refine g_goto F 62 dX11_middle_102 (by decide) ?_
                        exact ih_62 (j + 1) g2 (by omega) (by omega)
                      · refine g_aload_n F 0 rfl dX11_middle_83 ?_
                        refine g_iload F 4 rfl dX11_middle_84 ?_
                        refine g_iload F 6 rfl dX11_middle_86 ?_
                        refine g_cVi F (wr := []) [.long (lN (sumI (fun q => dsN kd L pl tN i q) I j))] (c_X11_far E A ln pl td zi rf rg g2 bs2_17 zt al pp pw ph n kd rk ps L tN I i j (hK) (hZ) (by omega) (by omega)) (gi_V tw_ml_X11_86 tw_im_X11_far tw_se_X11_far tw_in_X11 tw_co_X11_far) 2 rfl (by decide) ⟨rfl, rfl, by decide, by decide, Nat.zero_le _, Nat.zero_le _⟩ 11 0 rfl rfl [0, 1, 2, 3, 4, 5, 6, 7, 8, 9, 10, 11, 12, 13] [] [0, 1, 2, 3, 4, 5, 6, 7, 8, 9, 10, 11, 12, 13] (fun u => [ob (A 0) 11 [.int (nI n), .int (nI kd), .ref (A 1), .ref (A 2), .ref (A 3), .ref (A 4), .int (nI rk), .ref (A 5), .ref (A 6), .ref (A 7), .ref (A 8), .ref (A 9), .ref (A 10), .ref (A 11), .int ps, .ref (A 12), .ref (A 13)], ia E (A 1) 60 ln, ia E (A 2) 480 pl, ia E (A 3) 3600 td, za E (A 4) 60 zi, ia E (A 5) 60 rf, ia E (A 6) 60 rg, ia E (A 7) 81 u, ia E (A 8) 3 bs2_17, za E (A 9) 60 zt, ia E (A 10) 3600 al, ia E (A 11) 60 pp, ia E (A 12) 60 pw, ia E (A 13) 60 ph]) rfl rfl (by decide) (fun _ => rfl) rfl (Nat.le_of_ble_eq_true rfl) dX11_middle_88 (fun r_88 u hu_88 => ?_)
                        revert hu_88; revert u; intro co_88 hu_88
                        subst hu_88
                        refine g_i2l F (lN (dsN kd L pl tN i j)) (nI_l (by have := ds_le (kd := kd) (a := i) (b := j) hK.2.2.1 hK.2.2.2.1 hK.2.2.2.2.1 (by omega) (by omega); omega)) dX11_middle_91 ?_
                        refine g_goto F 96 dX11_middle_92 (by decide) ?_
                        refine g_ladd F dX11_middle_96 ?_
                        refine g_topl (lN (sumI (fun q => dsN kd L pl tN i q) I (j + 1))) (by rw [lN_add]; exact congrArg lN (by first | (have h9 : I j = true := c_80; exact sumI_1 (g := fun q => dsN kd L pl tN i q) h9) | (have h9 : I j = false := c_80; exact sumI_0 h9))) ?_
                        refine g_lstore F 6 [(0, .ref (A 0)), (1, .int (nI w0)), (2, .int w), (3, .long (lN ls)), (5, .int (nI i)), (6, .long (lN (sumI (fun q => dsN kd L pl tN i q) I (j + 1)))), (8, .int (nI j))] [1, 2, 3, 4, 5, 0, 6] dX11_middle_97 (by decide) rfl ?_
                        refine g_iinc F (nI (j + 1)) 8 6 [(0, .ref (A 0)), (1, .int (nI w0)), (2, .int w), (3, .long (lN ls)), (5, .int (nI i)), (6, .long (lN (sumI (fun q => dsN kd L pl tN i q) I (j + 1)))), (8, .int (nI (j + 1)))] [1, 2, 3, 4, 5, 6, 0] dX11_middle_99 rfl (n_inc j) (by decide) rfl ?_
                        refine g_goto F 62 dX11_middle_102 (by decide) ?_
                        exact ih_62 (j + 1) co_88 (by omega) (by omega)
                exact lp_62 _ 0 g (by omega) (Nat.lt_succ_self _)
              · refine g_goto F 126 dX11_middle_53 (by decide) ?_
                refine g_iinc F (nI (i + 1)) 5 4 [(0, .ref (A 0)), (1, .int (nI w0)), (2, .int w), (3, .long (lN ls)), (5, .int (nI (i + 1)))] [1, 2, 3, 4, 0] dX11_middle_126 rfl (n_inc i) (by decide) rfl ?_
                refine g_goto F 34 dX11_middle_129 (by decide) ?_
                exact ih_34 (i + 1) w ls g (by omega) (nx_skip hw (fun z => by rw [c_50] at z; cases z)) (hls) (by omega)
        exact lp_34 _ 0 (-1) 0 co (by omega) (Or.inl ⟨rfl, fun t h => absurd h (Nat.not_lt_zero t)⟩) (fun s h1 h2 => absurd h1.symm (nI_m1 (by omega))) (Nat.lt_succ_self _)
      · refine g_if_ne F 27 dX11_middle_20 (by decide) (fun h => absurd (by decide) h) (fun _ => ?_)
        refine g_ldc2 F tw_cl2_X11_135 dX11_middle_23 ?_
        exact R _ ((co, bs2_17)) _ _ dX11_middle_26 (by (try dsimp only); exact (Or.inr ⟨Or.inr (Or.inr (lwk_no hk5 htb)), rfl⟩))
  · refine g_if_eq F 23 dX11_middle_6 (by decide) (fun _ => ?_) (fun h => absurd (by decide) h)
    refine g_ldc2 F tw_cl2_X11_135 dX11_middle_23 ?_
    exact R _ ((co, bs)) _ _ dX11_middle_26 (by (try dsimp only); exact (Or.inr ⟨Or.inl (lie_n (by decide) l0_3), rfl⟩))

set_option maxHeartbeats 4000000 in
set_option maxRecDepth 100000 in
theorem c_X11_count (E : Ev) (A : Nat → Nat) (ln : Nat → Int32) (pl : Nat → Int32) (td : Nat → Int32) (zi : Nat → Int32) (rf : Nat → Int32) (rg : Nat → Int32) (co : Nat → Int32) (bs : Nat → Int32) (zt : Nat → Int32) (al : Nat → Int32) (pp : Nat → Int32) (pw : Nat → Int32) (ph : Nat → Int32) (n : Nat) (kd : Nat) (rk : Nat) (ps : Int32) (L : Nat → Nat) (tN : Nat → Nat) (I : Nat → Bool) (rt : Nat → Nat) (ra : Nat → Nat) (x : Int32) (hK : MDK n kd L ln pl tN td) (hZ : ZI n zi I) (hR : NBR rk rf rg rt ra) : CTi E yX11_count (wq yX11_count cX11_count 5 (some .int)) (rmk 3 75) [.ref (A 0), .int x] [ob (A 0) 11 [.int (nI n), .int (nI kd), .ref (A 1), .ref (A 2), .ref (A 3), .ref (A 4), .int (nI rk), .ref (A 5), .ref (A 6), .ref (A 7), .ref (A 8), .ref (A 9), .ref (A 10), .ref (A 11), .int ps, .ref (A 12), .ref (A 13)], ia E (A 1) 60 ln, ia E (A 2) 480 pl, ia E (A 3) 3600 td, za E (A 4) 60 zi, ia E (A 5) 60 rf, ia E (A 6) 60 rg, ia E (A 7) 81 co, ia E (A 8) 3 bs, za E (A 9) 60 zt, ia E (A 10) 3600 al, ia E (A 11) 60 pp, ia E (A 12) 60 pw, ia E (A 13) 60 ph] (fun (r : Int32) (u : (Nat → Int32) × (Nat → Int32)) => (x = 0 ∧ r = nI n) ∨ (x = 1 ∧ r = nI (cI I n)) ∨ (x = 2 ∧ r = nI kd) ∨ (x = 3 ∧ r = nI rk) ∨ (x = 4 ∧ ((LWK kd tN n ∧ ∃ g0, GRT (dsN kd L pl tN) I g0 ∧ r = nI g0) ∨ (¬ LWK kd tN n ∧ r = -1))) ∨ ((x ≠ 0 ∧ x ≠ 1 ∧ x ≠ 2 ∧ x ≠ 3 ∧ x ≠ 4) ∧ ((∃ t0, t0 < n ∧ x = nI (t0 + 10) ∧ r = nI (L t0)) ∨ ((∀ t0, t0 < n → x ≠ nI (t0 + 10)) ∧ r = -1)))) (fun (u : (Nat → Int32) × (Nat → Int32)) => [ob (A 0) 11 [.int (nI n), .int (nI kd), .ref (A 1), .ref (A 2), .ref (A 3), .ref (A 4), .int (nI rk), .ref (A 5), .ref (A 6), .ref (A 7), .ref (A 8), .ref (A 9), .ref (A 10), .ref (A 11), .int ps, .ref (A 12), .ref (A 13)], ia E (A 1) 60 ln, ia E (A 2) 480 pl, ia E (A 3) 3600 td, za E (A 4) 60 zi, ia E (A 5) 60 rf, ia E (A 6) 60 rg, ia E (A 7) 81 u.1, ia E (A 8) 3 u.2, za E (A 9) 60 zt, ia E (A 10) 3600 al, ia E (A 11) 60 pp, ia E (A 12) 60 pw, ia E (A 13) 60 ph]) := by
  refine CTi.of (by decide) (Nat.le_of_ble_eq_true rfl) (fun X F R => ?_)
  refine g_lv [0, 1] [(0, .ref (A 0)), (1, .int x)] rfl ?_
  have hn60 := hK.1
  have hI60 : ∀ t, I t = true → t < 60 := fun t ht => Nat.lt_of_lt_of_le (hZ.2 t ht) hn60
  refine g_iload_n F 1 rfl dX11_count_0 ?_
  refine g_bipush F (nI 10) (by decide) dX11_count_1 ?_
  refine g_isub F dX11_count_3 ?_
  refine g_iconst F (nI 0) (by decide) dX11_count_4 ?_
  refine g_aload_n F 0 rfl dX11_count_5 ?_
  refine g_get F 11 0 0 inX11 rfl rfl (by decide) tw_fl_X11_50 rfl dX11_count_6 ?_
  refine g_iconst F (nI 1) (by decide) dX11_count_9 ?_
  refine g_isub F dX11_count_10 ?_
  refine g_cSi F (wr := [ob (A 0) 11 [.int (nI n), .int (nI kd), .ref (A 1), .ref (A 2), .ref (A 3), .ref (A 4), .int (nI rk), .ref (A 5), .ref (A 6), .ref (A 7), .ref (A 8), .ref (A 9), .ref (A 10), .ref (A 11), .int ps, .ref (A 12), .ref (A 13)], ia E (A 1) 60 ln, ia E (A 2) 480 pl, ia E (A 3) 3600 td, za E (A 4) 60 zi, ia E (A 5) 60 rf, ia E (A 6) 60 rg, ia E (A 7) 81 co, ia E (A 8) 3 bs, za E (A 9) 60 zt, ia E (A 10) 3600 al, ia E (A 11) 60 pp, ia E (A 12) 60 pw, ia E (A 13) 60 ph]) [] (c_X11_lies E (x - (nI 10)) (nI 0) ((nI n) - (nI 1)) ) ⟨tw_ml_X11_54, tw_sm_X11_lies, tw_in_X11, tw_co_X11_lies⟩ 3 rfl (by decide) ⟨rfl, rfl, by decide, by decide, Nat.zero_le _, Nat.zero_le _⟩ [] [0, 1, 2, 3, 4, 5, 6, 7, 8, 9, 10, 11, 12, 13] [0, 1, 2, 3, 4, 5, 6, 7, 8, 9, 10, 11, 12, 13] (fun u => [ob (A 0) 11 [.int (nI n), .int (nI kd), .ref (A 1), .ref (A 2), .ref (A 3), .ref (A 4), .int (nI rk), .ref (A 5), .ref (A 6), .ref (A 7), .ref (A 8), .ref (A 9), .ref (A 10), .ref (A 11), .int ps, .ref (A 12), .ref (A 13)], ia E (A 1) 60 ln, ia E (A 2) 480 pl, ia E (A 3) 3600 td, za E (A 4) 60 zi, ia E (A 5) 60 rf, ia E (A 6) 60 rg, ia E (A 7) 81 co, ia E (A 8) 3 bs, za E (A 9) 60 zt, ia E (A 10) 3600 al, ia E (A 11) 60 pp, ia E (A 12) 60 pw, ia E (A 13) 60 ph]) rfl rfl (by decide) (fun _ => rfl) rfl (Nat.le_of_ble_eq_true rfl) dX11_count_11 (fun r_11 u hu_11 => ?_)
  rcases hu_11 with ⟨rfl, l1_11, l2_11⟩ | ⟨rfl, l0_11⟩
  · refine g_if_eq F 27 dX11_count_14 (by decide) (fun h => absurd h (by decide)) (fun _ => ?_)
    obtain ⟨t9, ht9, e9⟩ := (nsub1 hn60).mp ⟨l1_11, l2_11⟩
    have hx9 := sub10.mp e9
    refine g_aload_n F 0 rfl dX11_count_17 ?_
    refine g_get F 11 0 2 inX11 rfl rfl (by decide) tw_fl_X11_7 rfl dX11_count_18 ?_
    refine g_iload_n F 1 rfl dX11_count_21 ?_
    refine g_bipush F (nI 10) (by decide) dX11_count_22 ?_
    refine g_isub F dX11_count_24 ?_
    refine g_top (nI t9) (e9) ?_
    refine g_iald F 1 rfl (by omega) (by decide) dX11_count_25 ?_
    refine g_top (nI (L t9)) ((hK.2.2.1 t9 (by omega)).1) ?_
    exact R _ ((co, bs)) _ _ dX11_count_26 (by (try dsimp only); exact (Or.inr (Or.inr (Or.inr (Or.inr (Or.inr ⟨⟨fun z => by rw [z] at hx9; exact absurd hx9.symm (nI_ne0 (by omega) (by omega)), fun z => by rw [z] at hx9; have := (nI_eq (a := 1) (b := t9 + 10) (by omega) (by omega)).mp hx9; omega, fun z => by rw [z] at hx9; have := (nI_eq (a := 2) (b := t9 + 10) (by omega) (by omega)).mp hx9; omega, fun z => by rw [z] at hx9; have := (nI_eq (a := 3) (b := t9 + 10) (by omega) (by omega)).mp hx9; omega, fun z => by rw [z] at hx9; have := (nI_eq (a := 4) (b := t9 + 10) (by omega) (by omega)).mp hx9; omega⟩, Or.inl ⟨t9, ht9, hx9, rfl⟩⟩))))))
  · refine g_if_eq F 27 dX11_count_14 (by decide) (fun _ => ?_) (fun h => absurd (by decide) h)
    refine g_iconst F (nI 0) (by decide) dX11_count_27 ?_
    refine g_istore_n F 2 [(0, .ref (A 0)), (1, .int x), (2, .int (nI 0))] [1, 2, 0] dX11_count_28 rfl (by decide) rfl ?_
    refine g_iload_n F 1 rfl dX11_count_29 ?_
    by_cases sw_30_0 : x = 0
    · refine g_tabIn F 64 (34 : Int) dX11_count_30 (by rw [sw_30_0]; decide) (by rw [sw_30_0]; decide) (by rw [sw_30_0]; rfl) (by decide) ?_
      refine g_aload_n F 0 rfl dX11_count_64 ?_
      refine g_get F 11 0 0 inX11 rfl rfl (by decide) tw_fl_X11_50 rfl dX11_count_65 ?_
      exact R _ ((co, bs)) _ _ dX11_count_68 (by (try dsimp only); exact (Or.inl ⟨sw_30_0, rfl⟩))
    by_cases sw_30_1 : x = 1
    · refine g_tabIn F 69 (39 : Int) dX11_count_30 (by rw [sw_30_1]; decide) (by rw [sw_30_1]; decide) (by rw [sw_30_1]; rfl) (by decide) ?_
      refine g_aload_n F 0 rfl dX11_count_69 ?_
      refine g_rVi F (wr := []) [] (c_X11_inBook E A ln pl td zi rf rg co bs zt al pp pw ph n kd rk ps L tN I (hK) (hZ)) (gi_V tw_ml_X11_112 tw_im_X11_inBook tw_se_X11_inBook tw_in_X11 tw_co_X11_inBook) 0 rfl (by decide) ⟨rfl, rfl, by decide, by decide, Nat.zero_le _, Nat.zero_le _⟩ 11 0 rfl rfl [0, 1, 2, 3, 4, 5, 6, 7, 8, 9, 10, 11, 12, 13] [] [0, 1, 2, 3, 4, 5, 6, 7, 8, 9, 10, 11, 12, 13] rfl rfl (by decide) rfl rfl (Nat.le_of_ble_eq_true rfl) dX11_count_70 ?_
      exact R _ ((co, bs)) _ _ dX11_count_73 (by (try dsimp only); exact (Or.inr (Or.inl ⟨sw_30_1, rfl⟩)))
    by_cases sw_30_2 : x = 2
    · refine g_tabIn F 74 (44 : Int) dX11_count_30 (by rw [sw_30_2]; decide) (by rw [sw_30_2]; decide) (by rw [sw_30_2]; rfl) (by decide) ?_
      refine g_aload_n F 0 rfl dX11_count_74 ?_
      refine g_get F 11 0 1 inX11 rfl rfl (by decide) tw_fl_X11_63 rfl dX11_count_75 ?_
      exact R _ ((co, bs)) _ _ dX11_count_78 (by (try dsimp only); exact (Or.inr (Or.inr (Or.inl ⟨sw_30_2, rfl⟩))))
    by_cases sw_30_3 : x = 3
    · refine g_tabIn F 79 (49 : Int) dX11_count_30 (by rw [sw_30_3]; decide) (by rw [sw_30_3]; decide) (by rw [sw_30_3]; rfl) (by decide) ?_
      refine g_aload_n F 0 rfl dX11_count_79 ?_
      refine g_get F 11 0 6 inX11 rfl rfl (by decide) tw_fl_X11_93 rfl dX11_count_80 ?_
      exact R _ ((co, bs)) _ _ dX11_count_83 (by (try dsimp only); exact (Or.inr (Or.inr (Or.inr (Or.inl ⟨sw_30_3, rfl⟩)))))
    by_cases sw_30_4 : x = 4
    · refine g_tabIn F 84 (54 : Int) dX11_count_30 (by rw [sw_30_4]; decide) (by rw [sw_30_4]; decide) (by rw [sw_30_4]; rfl) (by decide) ?_
      refine g_iconst F (nI 0) (by decide) dX11_count_84 ?_
      refine g_istore_n F 3 [(0, .ref (A 0)), (1, .int x), (2, .int (nI 0)), (3, .int (nI 0))] [1, 2, 3, 0] dX11_count_85 rfl (by decide) rfl ?_
      have lp_86 : ∀ (n_86 : Nat) (a0 : Nat) (m : Nat) (g : Nat → Int32), (a0 ≤ n) → (m ≤ 100000) → (∀ x1 y1, DNE a0 0 x1 y1 → I x1 = true → I y1 = true → y1 < x1 → dsN kd L pl tN x1 y1 ≤ m) → ((m = 0 ∨ ∃ x1 y1, I x1 = true ∧ I y1 = true ∧ y1 < x1 ∧ dsN kd L pl tN x1 y1 = m)) → n - a0 < n_86 → GW E X 0 0 [ob (A 0) 11 [.int (nI n), .int (nI kd), .ref (A 1), .ref (A 2), .ref (A 3), .ref (A 4), .int (nI rk), .ref (A 5), .ref (A 6), .ref (A 7), .ref (A 8), .ref (A 9), .ref (A 10), .ref (A 11), .int ps, .ref (A 12), .ref (A 13)], ia E (A 1) 60 ln, ia E (A 2) 480 pl, ia E (A 3) 3600 td, za E (A 4) 60 zi, ia E (A 5) 60 rf, ia E (A 6) 60 rg, ia E (A 7) 81 g, ia E (A 8) 3 bs, za E (A 9) 60 zt, ia E (A 10) 3600 al, ia E (A 11) 60 pp, ia E (A 12) 60 pw, ia E (A 13) 60 ph] [(0, .ref (A 0)), (1, .int x), (2, .int (nI m)), (3, .int (nI a0))] 86 [] := by
        intro n_86
        induction n_86 with
        | zero => intro a0 m g ha hm hp he hm_86; exact absurd hm_86 (Nat.not_lt_zero _)
        | succ n_86 ih_86 =>
          intro a0 m g ha hm hp he hm_86
          refine g_iload_n F 3 rfl dX11_count_86 ?_
          refine g_aload_n F 0 rfl dX11_count_87 ?_
          refine g_get F 11 0 0 inX11 rfl rfl (by decide) tw_fl_X11_50 rfl dX11_count_88 ?_
          refine n_icmp_ge F 157 dX11_count_91 (by decide) (by omega) (by omega) (fun c_91 => ?_) (fun c_91 => ?_)
          · refine g_aload_n F 0 rfl dX11_count_157 ?_
            refine g_cVi F (wr := []) [] (c_X11_holds E A ln pl td zi rf rg g bs zt al pp pw ph n kd rk ps L tN I (hK) (hZ)) (gi_V tw_ml_X11_89 tw_im_X11_holds tw_se_X11_holds tw_in_X11 tw_co_X11_holds) 0 rfl (by decide) ⟨rfl, rfl, by decide, by decide, Nat.zero_le _, Nat.zero_le _⟩ 11 0 rfl rfl [0, 1, 2, 3, 4, 5, 6, 7, 8, 9, 10, 11, 12, 13] [] [0, 1, 2, 3, 4, 5, 6, 7, 8, 9, 10, 11, 12, 13] (fun u => [ob (A 0) 11 [.int (nI n), .int (nI kd), .ref (A 1), .ref (A 2), .ref (A 3), .ref (A 4), .int (nI rk), .ref (A 5), .ref (A 6), .ref (A 7), .ref (A 8), .ref (A 9), .ref (A 10), .ref (A 11), .int ps, .ref (A 12), .ref (A 13)], ia E (A 1) 60 ln, ia E (A 2) 480 pl, ia E (A 3) 3600 td, za E (A 4) 60 zi, ia E (A 5) 60 rf, ia E (A 6) 60 rg, ia E (A 7) 81 g, ia E (A 8) 3 u, za E (A 9) 60 zt, ia E (A 10) 3600 al, ia E (A 11) 60 pp, ia E (A 12) 60 pw, ia E (A 13) 60 ph]) rfl rfl (by decide) (fun _ => rfl) rfl (Nat.le_of_ble_eq_true rfl) dX11_count_158 (fun r_158 u hu_158 => ?_)
            revert hu_158; revert u; intro bs2_158 hu_158
            rcases hu_158 with ⟨rfl, hlw⟩ | ⟨rfl, hk5, htb⟩
            · refine g_if_eq F 168 dX11_count_161 (by decide) (fun h => absurd h (by decide)) (fun _ => ?_)
              refine g_iload_n F 2 rfl dX11_count_164 ?_
              refine g_goto F 169 dX11_count_165 (by decide) ?_
              exact R _ ((g, bs2_158)) _ _ dX11_count_169 (by (try dsimp only); exact (Or.inr (Or.inr (Or.inr (Or.inr (Or.inl ⟨sw_30_4, Or.inl ⟨hlw, m, ⟨fun x1 y1 h1 h2 h3 => hp x1 y1 (Or.inl (by have := hZ.2 x1 h1; omega)) h1 h2 h3, he⟩, rfl⟩⟩))))))
            · refine g_if_eq F 168 dX11_count_161 (by decide) (fun _ => ?_) (fun h => absurd (by decide) h)
              refine g_iconst F (-1) (by decide) dX11_count_168 ?_
              exact R _ ((g, bs2_158)) _ _ dX11_count_169 (by (try dsimp only); exact (Or.inr (Or.inr (Or.inr (Or.inr (Or.inl ⟨sw_30_4, Or.inr ⟨lwk_no hk5 htb, rfl⟩⟩))))))
          · refine g_iconst F (nI 0) (by decide) dX11_count_94 ?_
            refine g_istore F 4 [(0, .ref (A 0)), (1, .int x), (2, .int (nI m)), (3, .int (nI a0)), (4, .int (nI 0))] [1, 2, 3, 4, 0] dX11_count_95 (by decide) rfl ?_
            have lp_97 : ∀ (n_97 : Nat) (b0 : Nat) (m2 : Nat) (g2 : Nat → Int32), (b0 ≤ a0) → (m2 ≤ 100000) → (∀ x1 y1, DNE a0 b0 x1 y1 → I x1 = true → I y1 = true → y1 < x1 → dsN kd L pl tN x1 y1 ≤ m2) → ((m2 = 0 ∨ ∃ x1 y1, I x1 = true ∧ I y1 = true ∧ y1 < x1 ∧ dsN kd L pl tN x1 y1 = m2)) → a0 - b0 < n_97 → GW E X 0 0 [ob (A 0) 11 [.int (nI n), .int (nI kd), .ref (A 1), .ref (A 2), .ref (A 3), .ref (A 4), .int (nI rk), .ref (A 5), .ref (A 6), .ref (A 7), .ref (A 8), .ref (A 9), .ref (A 10), .ref (A 11), .int ps, .ref (A 12), .ref (A 13)], ia E (A 1) 60 ln, ia E (A 2) 480 pl, ia E (A 3) 3600 td, za E (A 4) 60 zi, ia E (A 5) 60 rf, ia E (A 6) 60 rg, ia E (A 7) 81 g2, ia E (A 8) 3 bs, za E (A 9) 60 zt, ia E (A 10) 3600 al, ia E (A 11) 60 pp, ia E (A 12) 60 pw, ia E (A 13) 60 ph] [(0, .ref (A 0)), (1, .int x), (2, .int (nI m2)), (3, .int (nI a0)), (4, .int (nI b0))] 97 [] := by
              intro n_97
              induction n_97 with
              | zero => intro b0 m2 g2 hb hm2 hp2 he2 hm_97; exact absurd hm_97 (Nat.not_lt_zero _)
              | succ n_97 ih_97 =>
                intro b0 m2 g2 hb hm2 hp2 he2 hm_97
                refine g_iload F 4 rfl dX11_count_97 ?_
                refine g_iload_n F 3 rfl dX11_count_99 ?_
                refine n_icmp_ge F 151 dX11_count_100 (by decide) (by omega) (by omega) (fun c_100 => ?_) (fun c_100 => ?_)
                · refine g_iinc F (nI (a0 + 1)) 3 3 [(0, .ref (A 0)), (1, .int x), (2, .int (nI m2)), (3, .int (nI (a0 + 1))), (4, .int (nI b0))] [1, 2, 3, 0, 4] dX11_count_151 rfl (n_inc a0) (by decide) rfl ?_
                  refine g_goto F 86 dX11_count_154 (by decide) ?_
                  refine g_lv [0, 1, 2, 3] [(0, .ref (A 0)), (1, .int x), (2, .int (nI m2)), (3, .int (nI (a0 + 1)))] rfl ?_
                  exact ih_86 (a0 + 1) m2 g2 (by omega) (hm2) (fun x1 y1 z h1 h2 h3 => hp2 x1 y1 (by unfold DNE at z ⊢; omega) h1 h2 h3) (he2) (by omega)
                · refine g_aload_n F 0 rfl dX11_count_103 ?_
                  refine g_get F 11 0 5 inX11 rfl rfl (by decide) tw_fl_X11_19 rfl dX11_count_104 ?_
                  refine g_iload_n F 3 rfl dX11_count_107 ?_
                  refine g_zald F 4 rfl (by omega) (by decide) dX11_count_108 ?_
                  refine g_top (bI (I a0)) (hZ.1 a0 (by omega)) ?_
                  refine b_if_eq F 143 dX11_count_109 (by decide) (fun c_109 => ?_) (fun c_109 => ?_)
                  · refine g_iload_n F 2 rfl dX11_count_143 ?_
                    refine g_istore_n F 2 [(0, .ref (A 0)), (1, .int x), (2, .int (nI m2)), (3, .int (nI a0)), (4, .int (nI b0))] [1, 2, 0, 3, 4] dX11_count_144 rfl (by decide) rfl ?_
                    refine g_iinc F (nI (b0 + 1)) 4 4 [(0, .ref (A 0)), (1, .int x), (2, .int (nI m2)), (3, .int (nI a0)), (4, .int (nI (b0 + 1)))] [1, 2, 3, 4, 0] dX11_count_145 rfl (n_inc b0) (by decide) rfl ?_
                    refine g_goto F 97 dX11_count_148 (by decide) ?_
                    exact ih_97 (b0 + 1) m2 g2 (by omega) (hm2) (fun x1 y1 z h1 h2 h3 => by
                        by_cases c : x1 = a0 ∧ y1 = b0
                        · rw [c.1] at h1 ⊢
                          rw [c.2] at h2 ⊢
                          rw [c_109] at h1; cases h1
                        · exact hp2 x1 y1 (by unfold DNE at z ⊢; omega) h1 h2 h3) (he2) (by omega)
                  · refine g_aload_n F 0 rfl dX11_count_112 ?_
                    refine g_get F 11 0 5 inX11 rfl rfl (by decide) tw_fl_X11_19 rfl dX11_count_113 ?_
                    refine g_iload F 4 rfl dX11_count_116 ?_
                    refine g_zald F 4 rfl (by omega) (by decide) dX11_count_118 ?_
                    refine g_top (bI (I b0)) (hZ.1 b0 (by omega)) ?_
                    refine b_if_eq F 143 dX11_count_119 (by decide) (fun c_119 => ?_) (fun c_119 => ?_)
                    · refine g_iload_n F 2 rfl dX11_count_143 ?_
                      refine g_istore_n F 2 [(0, .ref (A 0)), (1, .int x), (2, .int (nI m2)), (3, .int (nI a0)), (4, .int (nI b0))] [1, 2, 0, 3, 4] dX11_count_144 rfl (by decide) rfl ?_
                      refine g_iinc F (nI (b0 + 1)) 4 4 [(0, .ref (A 0)), (1, .int x), (2, .int (nI m2)), (3, .int (nI a0)), (4, .int (nI (b0 + 1)))] [1, 2, 3, 4, 0] dX11_count_145 rfl (n_inc b0) (by decide) rfl ?_
                      refine g_goto F 97 dX11_count_148 (by decide) ?_
                      exact ih_97 (b0 + 1) m2 g2 (by omega) (hm2) (fun x1 y1 z h1 h2 h3 => by
                          by_cases c : x1 = a0 ∧ y1 = b0
                          · rw [c.1] at h1 ⊢
                            rw [c.2] at h2 ⊢
                            rw [c_119] at h2; cases h2
                          · exact hp2 x1 y1 (by unfold DNE at z ⊢; omega) h1 h2 h3) (he2) (by omega)
                    · refine g_aload_n F 0 rfl dX11_count_122 ?_
                      refine g_iload_n F 3 rfl dX11_count_123 ?_
                      refine g_iload F 4 rfl dX11_count_124 ?_
                      refine g_cVi F (wr := []) [] (c_X11_far E A ln pl td zi rf rg g2 bs zt al pp pw ph n kd rk ps L tN I a0 b0 (hK) (hZ) (by omega) (by omega)) (gi_V tw_ml_X11_86 tw_im_X11_far tw_se_X11_far tw_in_X11 tw_co_X11_far) 2 rfl (by decide) ⟨rfl, rfl, by decide, by decide, Nat.zero_le _, Nat.zero_le _⟩ 11 0 rfl rfl [0, 1, 2, 3, 4, 5, 6, 7, 8, 9, 10, 11, 12, 13] [] [0, 1, 2, 3, 4, 5, 6, 7, 8, 9, 10, 11, 12, 13] (fun u => [ob (A 0) 11 [.int (nI n), .int (nI kd), .ref (A 1), .ref (A 2), .ref (A 3), .ref (A 4), .int (nI rk), .ref (A 5), .ref (A 6), .ref (A 7), .ref (A 8), .ref (A 9), .ref (A 10), .ref (A 11), .int ps, .ref (A 12), .ref (A 13)], ia E (A 1) 60 ln, ia E (A 2) 480 pl, ia E (A 3) 3600 td, za E (A 4) 60 zi, ia E (A 5) 60 rf, ia E (A 6) 60 rg, ia E (A 7) 81 u, ia E (A 8) 3 bs, za E (A 9) 60 zt, ia E (A 10) 3600 al, ia E (A 11) 60 pp, ia E (A 12) 60 pw, ia E (A 13) 60 ph]) rfl rfl (by decide) (fun _ => rfl) rfl (Nat.le_of_ble_eq_true rfl) dX11_count_126 (fun r_126 u hu_126 => ?_)
                      revert hu_126; revert u; intro co_126 hu_126
                      subst hu_126
                      refine g_iload_n F 2 rfl dX11_count_129 ?_
                      refine n_icmp_le F 143 dX11_count_130 (by decide) (by have := ds_le (kd := kd) (a := a0) (b := b0) hK.2.2.1 hK.2.2.2.1 hK.2.2.2.2.1 (by omega) (by omega); omega) (by omega) (fun c_130 => ?_) (fun c_130 => ?_)
                      · refine g_iload_n F 2 rfl dX11_count_143 ?_
                        refine g_istore_n F 2 [(0, .ref (A 0)), (1, .int x), (2, .int (nI m2)), (3, .int (nI a0)), (4, .int (nI b0))] [1, 2, 0, 3, 4] dX11_count_144 rfl (by decide) rfl ?_
                        refine g_iinc F (nI (b0 + 1)) 4 4 [(0, .ref (A 0)), (1, .int x), (2, .int (nI m2)), (3, .int (nI a0)), (4, .int (nI (b0 + 1)))] [1, 2, 3, 4, 0] dX11_count_145 rfl (n_inc b0) (by decide) rfl ?_
                        refine g_goto F 97 dX11_count_148 (by decide) ?_
                        exact ih_97 (b0 + 1) m2 co_126 (by omega) (hm2) (fun x1 y1 z h1 h2 h3 => by
                            by_cases c : x1 = a0 ∧ y1 = b0
                            · rw [c.1] at h1 ⊢
                              rw [c.2] at h2 ⊢
                              exact c_130
                            · exact hp2 x1 y1 (by unfold DNE at z ⊢; omega) h1 h2 h3) (he2) (by omega)
                      · refine g_aload_n F 0 rfl dX11_count_133 ?_
                        refine g_iload_n F 3 rfl dX11_count_134 ?_
                        refine g_iload F 4 rfl dX11_count_135 ?_
                        refine g_cVi F (wr := []) [] (c_X11_far E A ln pl td zi rf rg co_126 bs zt al pp pw ph n kd rk ps L tN I a0 b0 (hK) (hZ) (by omega) (by omega)) (gi_V tw_ml_X11_86 tw_im_X11_far tw_se_X11_far tw_in_X11 tw_co_X11_far) 2 rfl (by decide) ⟨rfl, rfl, by decide, by decide, Nat.zero_le _, Nat.zero_le _⟩ 11 0 rfl rfl [0, 1, 2, 3, 4, 5, 6, 7, 8, 9, 10, 11, 12, 13] [] [0, 1, 2, 3, 4, 5, 6, 7, 8, 9, 10, 11, 12, 13] (fun u => [ob (A 0) 11 [.int (nI n), .int (nI kd), .ref (A 1), .ref (A 2), .ref (A 3), .ref (A 4), .int (nI rk), .ref (A 5), .ref (A 6), .ref (A 7), .ref (A 8), .ref (A 9), .ref (A 10), .ref (A 11), .int ps, .ref (A 12), .ref (A 13)], ia E (A 1) 60 ln, ia E (A 2) 480 pl, ia E (A 3) 3600 td, za E (A 4) 60 zi, ia E (A 5) 60 rf, ia E (A 6) 60 rg, ia E (A 7) 81 u, ia E (A 8) 3 bs, za E (A 9) 60 zt, ia E (A 10) 3600 al, ia E (A 11) 60 pp, ia E (A 12) 60 pw, ia E (A 13) 60 ph]) rfl rfl (by decide) (fun _ => rfl) rfl (Nat.le_of_ble_eq_true rfl) dX11_count_137 (fun r_137 u hu_137 => ?_)
                        revert hu_137; revert u; intro co_137 hu_137
                        subst hu_137
                        refine g_goto F 144 dX11_count_140 (by decide) ?_
                        refine g_istore_n F 2 [(0, .ref (A 0)), (1, .int x), (2, .int (nI (dsN kd L pl tN a0 b0))), (3, .int (nI a0)), (4, .int (nI b0))] [1, 2, 0, 3, 4] dX11_count_144 rfl (by decide) rfl ?_
                        refine g_iinc F (nI (b0 + 1)) 4 4 [(0, .ref (A 0)), (1, .int x), (2, .int (nI (dsN kd L pl tN a0 b0))), (3, .int (nI a0)), (4, .int (nI (b0 + 1)))] [1, 2, 3, 4, 0] dX11_count_145 rfl (n_inc b0) (by decide) rfl ?_
                        refine g_goto F 97 dX11_count_148 (by decide) ?_
                        exact ih_97 (b0 + 1) (dsN kd L pl tN a0 b0) co_137 (by omega) (by have := ds_le (kd := kd) (a := a0) (b := b0) hK.2.2.1 hK.2.2.2.1 hK.2.2.2.2.1 (by omega) (by omega); omega) (fun x1 y1 z h1 h2 h3 => by
                            by_cases c : x1 = a0 ∧ y1 = b0
                            · rw [c.1, c.2]; exact Nat.le_refl _
                            · have := hp2 x1 y1 (by unfold DNE at z ⊢; omega) h1 h2 h3
                              omega) (Or.inr ⟨a0, b0, c_109, c_119, by omega, rfl⟩) (by omega)
            exact lp_97 _ 0 m g (by omega) (hm) (fun x1 y1 z h1 h2 h3 => hp x1 y1 (by unfold DNE at z ⊢; omega) h1 h2 h3) (he) (Nat.lt_succ_self _)
      exact lp_86 _ 0 0 co (by omega) (by omega) (fun x1 y1 z => by unfold DNE at z; omega) (Or.inl rfl) (Nat.lt_succ_self _)
    refine g_tabOut F 170 dX11_count_30 (sw_out5  sw_30_0 sw_30_1 sw_30_2 sw_30_3 sw_30_4) (by decide) ?_
    refine g_iconst F (-1) (by decide) dX11_count_170 ?_
    exact R _ ((co, bs)) _ _ dX11_count_171 (by (try dsimp only); exact (Or.inr (Or.inr (Or.inr (Or.inr (Or.inr ⟨⟨sw_30_0, sw_30_1, sw_30_2, sw_30_3, sw_30_4⟩, Or.inr ⟨fun t0 h1 h2 => nsub1n hn60 l0_11 t0 h1 (sub10.mpr h2), rfl⟩⟩))))))
