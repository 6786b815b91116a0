set_option maxHeartbeats 4000000 in
set_option maxRecDepth 100000 in
theorem c_X11_far (E : Ev) (A : Nat → Nat) (ln : Nat → Int32) (pl : Nat → Int32) (td : Nat → Int32) (zi : Nat → Int32) (rf : Nat → Int32) (rg : Nat → Int32) (co : Nat → Int32) (bs : Nat → Int32) (zt : Nat → Int32) (al : Nat → Int32) (pp : Nat → Int32) (pw : Nat → Int32) (ph : Nat → Int32) (n : Nat) (kd : Nat) (rk : Nat) (ps : Int32) (L : Nat → Nat) (tN : Nat → Nat) (I : Nat → Bool) (p0 : Nat) (q0 : Nat) (hK : MDK n kd L ln pl tN td) (hZ : ZI n zi I) (hp : p0 < 60) (hq : q0 < 60) : CTi E yX11_far (wq yX11_far cX11_far 7 (some .int)) (rmk 2 49) [.ref (A 0), .int (nI p0), .int (nI q0)] [ob (A 0) 11 [.int (nI n), .int (nI kd), .ref (A 1), .ref (A 2), .ref (A 3), .ref (A 4), .int (nI rk), .ref (A 5), .ref (A 6), .ref (A 7), .ref (A 8), .ref (A 9), .ref (A 10), .ref (A 11), .int ps, .ref (A 12), .ref (A 13)], ia E (A 1) 60 ln, ia E (A 2) 480 pl, ia E (A 3) 3600 td, za E (A 4) 60 zi, ia E (A 5) 60 rf, ia E (A 6) 60 rg, ia E (A 7) 81 co, ia E (A 8) 3 bs, za E (A 9) 60 zt, ia E (A 10) 3600 al, ia E (A 11) 60 pp, ia E (A 12) 60 pw, ia E (A 13) 60 ph] (fun (r : Int32) (u : (Nat → Int32)) => r = nI (dsN kd L pl tN p0 q0)) (fun (u : (Nat → Int32)) => [ob (A 0) 11 [.int (nI n), .int (nI kd), .ref (A 1), .ref (A 2), .ref (A 3), .ref (A 4), .int (nI rk), .ref (A 5), .ref (A 6), .ref (A 7), .ref (A 8), .ref (A 9), .ref (A 10), .ref (A 11), .int ps, .ref (A 12), .ref (A 13)], ia E (A 1) 60 ln, ia E (A 2) 480 pl, ia E (A 3) 3600 td, za E (A 4) 60 zi, ia E (A 5) 60 rf, ia E (A 6) 60 rg, ia E (A 7) 81 u, ia E (A 8) 3 bs, za E (A 9) 60 zt, ia E (A 10) 3600 al, ia E (A 11) 60 pp, ia E (A 12) 60 pw, ia E (A 13) 60 ph]) := by
  refine CTi.of (by decide) (Nat.le_of_ble_eq_true rfl) (fun X F R => ?_)
  refine g_lv [0, 1, 2] [(0, .ref (A 0)), (1, .int (nI p0)), (2, .int (nI q0))] rfl ?_
  have hn60 := hK.1
  refine g_iconst F (nI 0) (by decide) dX11_far_0 ?_
  refine g_istore_n F 3 [(0, .ref (A 0)), (1, .int (nI p0)), (2, .int (nI q0)), (3, .int (nI 0))] [1, 2, 3, 0] dX11_far_1 rfl (by decide) rfl ?_
  refine g_iconst F (nI 0) (by decide) dX11_far_2 ?_
  refine g_istore F 4 [(0, .ref (A 0)), (1, .int (nI p0)), (2, .int (nI q0)), (3, .int (nI 0)), (4, .int (nI 0))] [1, 2, 3, 4, 0] dX11_far_3 (by decide) rfl ?_
  refine g_iconst F (nI 0) (by decide) dX11_far_5 ?_
  refine g_istore F 5 [(0, .ref (A 0)), (1, .int (nI p0)), (2, .int (nI q0)), (3, .int (nI 0)), (4, .int (nI 0)), (5, .int (nI 0))] [1, 2, 3, 4, 5, 0] dX11_far_6 (by decide) rfl ?_
  have lp_8 : ∀ (n_8 : Nat) (i : Nat), (i ≤ 8) → 8 - i < n_8 → GW E X 0 0 [ob (A 0) 11 [.int (nI n), .int (nI kd), .ref (A 1), .ref (A 2), .ref (A 3), .ref (A 4), .int (nI rk), .ref (A 5), .ref (A 6), .ref (A 7), .ref (A 8), .ref (A 9), .ref (A 10), .ref (A 11), .int ps, .ref (A 12), .ref (A 13)], ia E (A 1) 60 ln, ia E (A 2) 480 pl, ia E (A 3) 3600 td, za E (A 4) 60 zi, ia E (A 5) 60 rf, ia E (A 6) 60 rg, ia E (A 7) 81 co, ia E (A 8) 3 bs, za E (A 9) 60 zt, ia E (A 10) 3600 al, ia E (A 11) 60 pp, ia E (A 12) 60 pw, ia E (A 13) 60 ph] [(0, .ref (A 0)), (1, .int (nI p0)), (2, .int (nI q0)), (3, .int (nI (smd pl p0 q0 i))), (4, .int (nI (grd pl p0 q0 i))), (5, .int (nI i))] 8 [] := by
    intro n_8
    induction n_8 with
    | zero => intro i hi hm_8; exact absurd hm_8 (Nat.not_lt_zero _)
    | succ n_8 ih_8 =>
      intro i hi hm_8
      refine g_iload F 5 rfl dX11_far_8 ?_
      refine g_bipush F (nI 8) (by decide) dX11_far_10 ?_
      refine n_icmp_ge F 72 dX11_far_12 (by decide) (by omega) (by omega) (fun c_12 => ?_) (fun c_12 => ?_)
      · refine g_aload_n F 0 rfl dX11_far_72 ?_
        refine g_get F 11 0 1 inX11 rfl rfl (by decide) tw_fl_X11_63 rfl dX11_far_73 ?_
        rcases kd_cases hK.2.1 with rfl | rfl | rfl | rfl | rfl | rfl
        · refine g_tabIn F 112 (36) dX11_far_76 (by decide) (by decide) (by decide) (by decide) ?_
          refine g_aload_n F 0 rfl dX11_far_112 ?_
          refine g_iload_n F 1 rfl dX11_far_113 ?_
          refine g_iload_n F 2 rfl dX11_far_114 ?_
          refine g_rVi F (wr := []) [] (c_X11_unlike E A ln pl td zi rf rg co bs zt al pp pw ph n 0 rk ps L tN I p0 q0 (hK) (hZ) (hp) (hq)) (gi_V tw_ml_X11_77 tw_im_X11_unlike tw_se_X11_unlike tw_in_X11 tw_co_X11_unlike) 2 rfl (by decide) ⟨rfl, rfl, by decide, by decide, Nat.zero_le _, Nat.zero_le _⟩ 11 0 rfl rfl [0, 1, 2, 3, 4, 5, 6, 7, 8, 9, 10, 11, 12, 13] [] [0, 1, 2, 3, 4, 5, 6, 7, 8, 9, 10, 11, 12, 13] rfl rfl (by decide) rfl rfl (Nat.le_of_ble_eq_true rfl) dX11_far_115 ?_
          exact R _ co _ _ dX11_far_118 (rfl)
        · refine g_tabIn F 119 (43) dX11_far_76 (by decide) (by decide) (by decide) (by decide) ?_
          refine g_aload_n F 0 rfl dX11_far_119 ?_
          refine g_iload_n F 1 rfl dX11_far_120 ?_
          refine g_iload_n F 2 rfl dX11_far_121 ?_
          refine g_cVi F (wr := []) [] (c_X11_edits E A ln pl td zi rf rg co bs zt al pp pw ph n 1 rk ps L tN I p0 q0 (hK) (hZ) (hp) (hq)) (gi_V tw_ml_X11_80 tw_im_X11_edits tw_se_X11_edits tw_in_X11 tw_co_X11_edits) 2 rfl (by decide) ⟨rfl, rfl, by decide, by decide, Nat.zero_le _, Nat.zero_le _⟩ 11 0 rfl rfl [0, 1, 2, 3, 4, 5, 6, 7, 8, 9, 10, 11, 12, 13] [] [0, 1, 2, 3, 4, 5, 6, 7, 8, 9, 10, 11, 12, 13] (fun u => [ob (A 0) 11 [.int (nI n), .int (nI 1), .ref (A 1), .ref (A 2), .ref (A 3), .ref (A 4), .int (nI rk), .ref (A 5), .ref (A 6), .ref (A 7), .ref (A 8), .ref (A 9), .ref (A 10), .ref (A 11), .int ps, .ref (A 12), .ref (A 13)], ia E (A 1) 60 ln, ia E (A 2) 480 pl, ia E (A 3) 3600 td, za E (A 4) 60 zi, ia E (A 5) 60 rf, ia E (A 6) 60 rg, ia E (A 7) 81 u, ia E (A 8) 3 bs, za E (A 9) 60 zt, ia E (A 10) 3600 al, ia E (A 11) 60 pp, ia E (A 12) 60 pw, ia E (A 13) 60 ph]) rfl rfl (by decide) (fun _ => rfl) rfl (Nat.le_of_ble_eq_true rfl) dX11_far_122 (fun r_122 u hu_122 => ?_)
          revert hu_122; revert u; intro co2_122 hu_122
          subst hu_122
          exact R _ co2_122 _ _ dX11_far_125 (rfl)
        · refine g_tabIn F 126 (50) dX11_far_76 (by decide) (by decide) (by decide) (by decide) ?_
          refine g_iload_n F 3 rfl dX11_far_126 ?_
          exact R _ co _ _ dX11_far_127 (by rw [show i = 8 by omega]; rfl)
        · refine g_tabIn F 128 (52) dX11_far_76 (by decide) (by decide) (by decide) (by decide) ?_
          refine g_iload F 4 rfl dX11_far_128 ?_
          exact R _ co _ _ dX11_far_130 (by rw [show i = 8 by omega]; rfl)
        · refine g_tabIn F 131 (55) dX11_far_76 (by decide) (by decide) (by decide) (by decide) ?_
          refine g_aload_n F 0 rfl dX11_far_131 ?_
          refine g_iload_n F 1 rfl dX11_far_132 ?_
          refine g_iload_n F 2 rfl dX11_far_133 ?_
          refine g_rVi F (wr := []) [] (c_X11_alone E A ln pl td zi rf rg co bs zt al pp pw ph n 4 rk ps L tN I p0 q0 (hK) (hZ) (hp) (hq)) (gi_V tw_ml_X11_83 tw_im_X11_alone tw_se_X11_alone tw_in_X11 tw_co_X11_alone) 2 rfl (by decide) ⟨rfl, rfl, by decide, by decide, Nat.zero_le _, Nat.zero_le _⟩ 11 0 rfl rfl [0, 1, 2, 3, 4, 5, 6, 7, 8, 9, 10, 11, 12, 13] [] [0, 1, 2, 3, 4, 5, 6, 7, 8, 9, 10, 11, 12, 13] rfl rfl (by decide) rfl rfl (Nat.le_of_ble_eq_true rfl) dX11_far_134 ?_
          refine g_aload_n F 0 rfl dX11_far_137 ?_
          refine g_iload_n F 2 rfl dX11_far_138 ?_
          refine g_iload_n F 1 rfl dX11_far_139 ?_
          refine g_rVi F (wr := []) [.int (nI (msn pl L p0 q0 (L p0)))] (c_X11_alone E A ln pl td zi rf rg co bs zt al pp pw ph n 4 rk ps L tN I q0 p0 (hK) (hZ) (hq) (hp)) (gi_V tw_ml_X11_83 tw_im_X11_alone tw_se_X11_alone tw_in_X11 tw_co_X11_alone) 2 rfl (by decide) ⟨rfl, rfl, by decide, by decide, Nat.zero_le _, Nat.zero_le _⟩ 11 0 rfl rfl [0, 1, 2, 3, 4, 5, 6, 7, 8, 9, 10, 11, 12, 13] [] [0, 1, 2, 3, 4, 5, 6, 7, 8, 9, 10, 11, 12, 13] rfl rfl (by decide) rfl rfl (Nat.le_of_ble_eq_true rfl) dX11_far_140 ?_
          refine n_add F dX11_far_143 ?_
          exact R _ co _ _ dX11_far_144 (rfl)
        · refine g_tabOut F 145 dX11_far_76 (by decide) (by decide) ?_
          refine g_aload_n F 0 rfl dX11_far_145 ?_
          refine g_get F 11 0 4 inX11 rfl rfl (by decide) tw_fl_X11_16 rfl dX11_far_146 ?_
          refine g_bipush F (nI 60) (by decide) dX11_far_149 ?_
          refine g_iload_n F 1 rfl dX11_far_151 ?_
          refine n_mul F dX11_far_152 ?_
          refine g_top (nI (p0 * 60)) (by rw [Nat.mul_comm]) ?_
          refine g_iload_n F 2 rfl dX11_far_153 ?_
          refine n_add F dX11_far_154 ?_
          refine g_iald F 3 rfl (by omega) (by decide) dX11_far_155 ?_
          exact R _ co _ _ dX11_far_156 ((hK.2.2.2.2.1 _ (by omega)).1)
      · refine g_aload_n F 0 rfl dX11_far_15 ?_
        refine g_get F 11 0 3 inX11 rfl rfl (by decide) tw_fl_X11_13 rfl dX11_far_16 ?_
        refine g_bipush F (nI 8) (by decide) dX11_far_19 ?_
        refine g_iload_n F 1 rfl dX11_far_21 ?_
        refine n_mul F dX11_far_22 ?_
        refine g_top (nI (p0 * 8)) (by rw [Nat.mul_comm]) ?_
        refine g_iload F 5 rfl dX11_far_23 ?_
        refine n_add F dX11_far_25 ?_
        refine g_iald F 2 rfl (by omega) (by decide) dX11_far_26 ?_
        refine g_aload_n F 0 rfl dX11_far_27 ?_
        refine g_get F 11 0 3 inX11 rfl rfl (by decide) tw_fl_X11_13 rfl dX11_far_28 ?_
        refine g_bipush F (nI 8) (by decide) dX11_far_31 ?_
        refine g_iload_n F 2 rfl dX11_far_33 ?_
        refine n_mul F dX11_far_34 ?_
        refine g_top (nI (q0 * 8)) (by rw [Nat.mul_comm]) ?_
        refine g_iload F 5 rfl dX11_far_35 ?_
        refine n_add F dX11_far_37 ?_
        refine g_iald F 2 rfl (by omega) (by decide) dX11_far_38 ?_
        refine g_isub F dX11_far_39 ?_
        refine g_rSi F (wr := [ob (A 0) 11 [.int (nI n), .int (nI kd), .ref (A 1), .ref (A 2), .ref (A 3), .ref (A 4), .int (nI rk), .ref (A 5), .ref (A 6), .ref (A 7), .ref (A 8), .ref (A 9), .ref (A 10), .ref (A 11), .int ps, .ref (A 12), .ref (A 13)], ia E (A 1) 60 ln, ia E (A 2) 480 pl, ia E (A 3) 3600 td, za E (A 4) 60 zi, ia E (A 5) 60 rf, ia E (A 6) 60 rg, ia E (A 7) 81 co, ia E (A 8) 3 bs, za E (A 9) 60 zt, ia E (A 10) 3600 al, ia E (A 11) 60 pp, ia E (A 12) 60 pw, ia E (A 13) 60 ph]) [] (c_X11_size E (pl (p0 * 8 + i)) (pl (q0 * 8 + i)) (hK.2.2.2.1 _ (by omega)) (hK.2.2.2.1 _ (by omega))) ⟨tw_ml_X11_73, tw_sm_X11_size, tw_in_X11, tw_co_X11_size⟩ 1 rfl (by decide) ⟨rfl, rfl, by decide, by decide, Nat.zero_le _, Nat.zero_le _⟩ [] [0, 1, 2, 3, 4, 5, 6, 7, 8, 9, 10, 11, 12, 13] [0, 1, 2, 3, 4, 5, 6, 7, 8, 9, 10, 11, 12, 13] rfl rfl (by decide) rfl rfl (Nat.le_of_ble_eq_true rfl) dX11_far_40 ?_
        refine g_top (nI (dfN pl p0 q0 i)) (rfl) ?_
        refine g_istore F 6 [(0, .ref (A 0)), (1, .int (nI p0)), (2, .int (nI q0)), (3, .int (nI (smd pl p0 q0 i))), (4, .int (nI (grd pl p0 q0 i))), (5, .int (nI i)), (6, .int (nI (dfN pl p0 q0 i)))] [1, 2, 3, 4, 5, 6, 0] dX11_far_43 (by decide) rfl ?_
        have hdf := df_le (i := i) hK.2.2.2.1 hp hq (by omega)
        have hgr := grd_le hK.2.2.2.1 hp hq i hi
        refine g_iload_n F 3 rfl dX11_far_45 ?_
        refine g_iload F 6 rfl dX11_far_46 ?_
        refine n_add F dX11_far_48 ?_
        refine g_top (nI (smd pl p0 q0 (i + 1))) (rfl) ?_
        refine g_istore_n F 3 [(0, .ref (A 0)), (1, .int (nI p0)), (2, .int (nI q0)), (3, .int (nI (smd pl p0 q0 (i + 1)))), (4, .int (nI (grd pl p0 q0 i))), (5, .int (nI i)), (6, .int (nI (dfN pl p0 q0 i)))] [1, 2, 3, 0, 4, 5, 6] dX11_far_49 rfl (by decide) rfl ?_
        refine g_iload F 6 rfl dX11_far_50 ?_
        refine g_iload F 4 rfl dX11_far_52 ?_
        refine n_icmp_le F 62 dX11_far_54 (by decide) (by omega) (by omega) (fun c_54 => ?_) (fun c_54 => ?_)
        · refine g_iload F 4 rfl dX11_far_62 ?_
          refine g_istore F 4 [(0, .ref (A 0)), (1, .int (nI p0)), (2, .int (nI q0)), (3, .int (nI (smd pl p0 q0 (i + 1)))), (4, .int (nI (grd pl p0 q0 i))), (5, .int (nI i)), (6, .int (nI (dfN pl p0 q0 i)))] [1, 2, 3, 4, 0, 5, 6] dX11_far_64 (by decide) rfl ?_
          refine g_iinc F (nI (i + 1)) 5 5 [(0, .ref (A 0)), (1, .int (nI p0)), (2, .int (nI q0)), (3, .int (nI (smd pl p0 q0 (i + 1)))), (4, .int (nI (grd pl p0 q0 i))), (5, .int (nI (i + 1))), (6, .int (nI (dfN pl p0 q0 i)))] [1, 2, 3, 4, 5, 0, 6] dX11_far_66 rfl (n_inc i) (by decide) rfl ?_
          refine g_goto F 8 dX11_far_69 (by decide) ?_
          refine g_lv [0, 1, 2, 3, 4, 5] [(0, .ref (A 0)), (1, .int (nI p0)), (2, .int (nI q0)), (3, .int (nI (smd pl p0 q0 (i + 1)))), (4, .int (nI (grd pl p0 q0 i))), (5, .int (nI (i + 1)))] rfl ?_
          refine g_lv [0, 1, 2, 3, 4, 5] [(0, .ref (A 0)), (1, .int (nI p0)), (2, .int (nI q0)), (3, .int (nI (smd pl p0 q0 (i + 1)))), (4, .int (nI (grd pl p0 q0 (i + 1)))), (5, .int (nI (i + 1)))] (by rw [show grd pl p0 q0 (i + 1) = grd pl p0 q0 i from Nat.max_eq_left c_54]; rfl) ?_
          exact ih_8 (i + 1) (by omega) (by omega)
        · refine g_iload F 6 rfl dX11_far_57 ?_
          refine g_goto F 64 dX11_far_59 (by decide) ?_
          refine g_istore F 4 [(0, .ref (A 0)), (1, .int (nI p0)), (2, .int (nI q0)), (3, .int (nI (smd pl p0 q0 (i + 1)))), (4, .int (nI (dfN pl p0 q0 i))), (5, .int (nI i)), (6, .int (nI (dfN pl p0 q0 i)))] [1, 2, 3, 4, 0, 5, 6] dX11_far_64 (by decide) rfl ?_
          refine g_iinc F (nI (i + 1)) 5 5 [(0, .ref (A 0)), (1, .int (nI p0)), (2, .int (nI q0)), (3, .int (nI (smd pl p0 q0 (i + 1)))), (4, .int (nI (dfN pl p0 q0 i))), (5, .int (nI (i + 1))), (6, .int (nI (dfN pl p0 q0 i)))] [1, 2, 3, 4, 5, 0, 6] dX11_far_66 rfl (n_inc i) (by decide) rfl ?_
          refine g_goto F 8 dX11_far_69 (by decide) ?_
          refine g_lv [0, 1, 2, 3, 4, 5] [(0, .ref (A 0)), (1, .int (nI p0)), (2, .int (nI q0)), (3, .int (nI (smd pl p0 q0 (i + 1)))), (4, .int (nI (dfN pl p0 q0 i))), (5, .int (nI (i + 1)))] rfl ?_
          refine g_lv [0, 1, 2, 3, 4, 5] [(0, .ref (A 0)), (1, .int (nI p0)), (2, .int (nI q0)), (3, .int (nI (smd pl p0 q0 (i + 1)))), (4, .int (nI (grd pl p0 q0 (i + 1)))), (5, .int (nI (i + 1)))] (by rw [show grd pl p0 q0 (i + 1) = dfN pl p0 q0 i from Nat.max_eq_right (Nat.le_of_lt c_54)]; rfl) ?_
          exact ih_8 (i + 1) (by omega) (by omega)
  exact lp_8 _ 0 (by omega) (Nat.lt_succ_self _)

set_option maxHeartbeats 4000000 in
set_option maxRecDepth 100000 in
theorem c_X11_holds (E : Ev) (A : Nat → Nat) (ln : Nat → Int32) (pl : Nat → Int32) (td : Nat → Int32) (zi : Nat → Int32) (rf : Nat → Int32) (rg : Nat → Int32) (co : Nat → Int32) (bs : Nat → Int32) (zt : Nat → Int32) (al : Nat → Int32) (pp : Nat → Int32) (pw : Nat → Int32) (ph : Nat → Int32) (n : Nat) (kd : Nat) (rk : Nat) (ps : Int32) (L : Nat → Nat) (tN : Nat → Nat) (I : Nat → Bool) (hK : MDK n kd L ln pl tN td) (hZ : ZI n zi I) : CTi E yX11_holds (wq yX11_holds cX11_holds 4 (some .boolean)) (rmk 0 0) [.ref (A 0)] [ob (A 0) 11 [.int (nI n), .int (nI kd), .ref (A 1), .ref (A 2), .ref (A 3), .ref (A 4), .int (nI rk), .ref (A 5), .ref (A 6), .ref (A 7), .ref (A 8), .ref (A 9), .ref (A 10), .ref (A 11), .int ps, .ref (A 12), .ref (A 13)], ia E (A 1) 60 ln, ia E (A 2) 480 pl, ia E (A 3) 3600 td, za E (A 4) 60 zi, ia E (A 5) 60 rf, ia E (A 6) 60 rg, ia E (A 7) 81 co, ia E (A 8) 3 bs, za E (A 9) 60 zt, ia E (A 10) 3600 al, ia E (A 11) 60 pp, ia E (A 12) 60 pw, ia E (A 13) 60 ph] (fun (r : Int32) (u : (Nat → Int32)) => (r = 1 ∧ LWK kd tN n) ∨ (r = 0 ∧ kd = 5 ∧ TBr tN u n)) (fun (u : (Nat → Int32)) => [ob (A 0) 11 [.int (nI n), .int (nI kd), .ref (A 1), .ref (A 2), .ref (A 3), .ref (A 4), .int (nI rk), .ref (A 5), .ref (A 6), .ref (A 7), .ref (A 8), .ref (A 9), .ref (A 10), .ref (A 11), .int ps, .ref (A 12), .ref (A 13)], ia E (A 1) 60 ln, ia E (A 2) 480 pl, ia E (A 3) 3600 td, za E (A 4) 60 zi, ia E (A 5) 60 rf, ia E (A 6) 60 rg, ia E (A 7) 81 co, ia E (A 8) 3 u, za E (A 9) 60 zt, ia E (A 10) 3600 al, ia E (A 11) 60 pp, ia E (A 12) 60 pw, ia E (A 13) 60 ph]) := by
  refine CTi.ofZ (by decide) (Nat.le_of_ble_eq_true rfl) (fun X F R => ?_)
  refine g_lv [0] [(0, .ref (A 0))] rfl ?_
  have hn60 := hK.1
  have hk5 := hK.2.1
  refine g_aload_n F 0 rfl dX11_holds_0 ?_
  refine g_get F 11 0 1 inX11 rfl rfl (by decide) tw_fl_X11_63 rfl dX11_holds_1 ?_
  refine g_iconst F (nI 5) (by decide) dX11_holds_4 ?_
  refine n_icmp_ge F 10 dX11_holds_5 (by decide) (by omega) (by omega) (fun c_5 => ?_) (fun c_5 => ?_)
  · refine g_iconst F (nI 0) (by decide) dX11_holds_10 ?_
    refine g_istore_n F 1 [(0, .ref (A 0)), (1, .int (nI 0))] [1, 0] dX11_holds_11 rfl (by decide) rfl ?_
    have lp_12 : ∀ (n_12 : Nat) (a0 : Nat), (a0 ≤ n) → (∀ x, x < a0 → ∀ y, y < n → ∀ z, z < n → ¬ bk tN x y z) → n - a0 < n_12 → GW E X 0 0 [ob (A 0) 11 [.int (nI n), .int (nI kd), .ref (A 1), .ref (A 2), .ref (A 3), .ref (A 4), .int (nI rk), .ref (A 5), .ref (A 6), .ref (A 7), .ref (A 8), .ref (A 9), .ref (A 10), .ref (A 11), .int ps, .ref (A 12), .ref (A 13)], ia E (A 1) 60 ln, ia E (A 2) 480 pl, ia E (A 3) 3600 td, za E (A 4) 60 zi, ia E (A 5) 60 rf, ia E (A 6) 60 rg, ia E (A 7) 81 co, ia E (A 8) 3 bs, za E (A 9) 60 zt, ia E (A 10) 3600 al, ia E (A 11) 60 pp, ia E (A 12) 60 pw, ia E (A 13) 60 ph] [(0, .ref (A 0)), (1, .int (nI a0))] 12 [] := by
      intro n_12
      induction n_12 with
      | zero => intro a0 ha h1 hm_12; exact absurd hm_12 (Nat.not_lt_zero _)
      | succ n_12 ih_12 =>
        intro a0 ha h1 hm_12
        refine g_iload_n F 1 rfl dX11_holds_12 ?_
        refine g_aload_n F 0 rfl dX11_holds_13 ?_
        refine g_get F 11 0 0 inX11 rfl rfl (by decide) tw_fl_X11_50 rfl dX11_holds_14 ?_
        refine n_icmp_ge F 121 dX11_holds_17 (by decide) (by omega) (by omega) (fun c_17 => ?_) (fun c_17 => ?_)
        · refine g_iconst F (nI 1) (by decide) dX11_holds_121 ?_
          exact R _ bs _ _ dX11_holds_122 (Or.inr rfl) (Or.inl ⟨rfl, fun _ x y z hx hy hz => h1 x (by omega) y hy z hz⟩)
        · refine g_iconst F (nI 0) (by decide) dX11_holds_20 ?_
          refine g_istore_n F 2 [(0, .ref (A 0)), (1, .int (nI a0)), (2, .int (nI 0))] [1, 2, 0] dX11_holds_21 rfl (by decide) rfl ?_
          have lp_22 : ∀ (n_22 : Nat) (b0 : Nat), (b0 ≤ n) → (∀ y, y < b0 → ∀ z, z < n → ¬ bk tN a0 y z) → n - b0 < n_22 → GW E X 0 0 [ob (A 0) 11 [.int (nI n), .int (nI kd), .ref (A 1), .ref (A 2), .ref (A 3), .ref (A 4), .int (nI rk), .ref (A 5), .ref (A 6), .ref (A 7), .ref (A 8), .ref (A 9), .ref (A 10), .ref (A 11), .int ps, .ref (A 12), .ref (A 13)], ia E (A 1) 60 ln, ia E (A 2) 480 pl, ia E (A 3) 3600 td, za E (A 4) 60 zi, ia E (A 5) 60 rf, ia E (A 6) 60 rg, ia E (A 7) 81 co, ia E (A 8) 3 bs, za E (A 9) 60 zt, ia E (A 10) 3600 al, ia E (A 11) 60 pp, ia E (A 12) 60 pw, ia E (A 13) 60 ph] [(0, .ref (A 0)), (1, .int (nI a0)), (2, .int (nI b0))] 22 [] := by
            intro n_22
            induction n_22 with
            | zero => intro b0 hb h2 hm_22; exact absurd hm_22 (Nat.not_lt_zero _)
            | succ n_22 ih_22 =>
              intro b0 hb h2 hm_22
              refine g_iload_n F 2 rfl dX11_holds_22 ?_
              refine g_aload_n F 0 rfl dX11_holds_23 ?_
              refine g_get F 11 0 0 inX11 rfl rfl (by decide) tw_fl_X11_50 rfl dX11_holds_24 ?_
              refine n_icmp_ge F 115 dX11_holds_27 (by decide) (by omega) (by omega) (fun c_27 => ?_) (fun c_27 => ?_)
              · refine g_iinc F (nI (a0 + 1)) 1 1 [(0, .ref (A 0)), (1, .int (nI (a0 + 1))), (2, .int (nI b0))] [1, 0, 2] dX11_holds_115 rfl (n_inc a0) (by decide) rfl ?_
                refine g_goto F 12 dX11_holds_118 (by decide) ?_
                refine g_lv [0, 1] [(0, .ref (A 0)), (1, .int (nI (a0 + 1)))] rfl ?_
                exact ih_12 (a0 + 1) (by omega) (lt_s h1 (fun y hy => h2 y (by omega))) (by omega)
              · refine g_iconst F (nI 0) (by decide) dX11_holds_30 ?_
                refine g_istore_n F 3 [(0, .ref (A 0)), (1, .int (nI a0)), (2, .int (nI b0)), (3, .int (nI 0))] [1, 2, 3, 0] dX11_holds_31 rfl (by decide) rfl ?_
                have lp_32 : ∀ (n_32 : Nat) (c0 : Nat), (c0 ≤ n) → (∀ z, z < c0 → ¬ bk tN a0 b0 z) → n - c0 < n_32 → GW E X 0 0 [ob (A 0) 11 [.int (nI n), .int (nI kd), .ref (A 1), .ref (A 2), .ref (A 3), .ref (A 4), .int (nI rk), .ref (A 5), .ref (A 6), .ref (A 7), .ref (A 8), .ref (A 9), .ref (A 10), .ref (A 11), .int ps, .ref (A 12), .ref (A 13)], ia E (A 1) 60 ln, ia E (A 2) 480 pl, ia E (A 3) 3600 td, za E (A 4) 60 zi, ia E (A 5) 60 rf, ia E (A 6) 60 rg, ia E (A 7) 81 co, ia E (A 8) 3 bs, za E (A 9) 60 zt, ia E (A 10) 3600 al, ia E (A 11) 60 pp, ia E (A 12) 60 pw, ia E (A 13) 60 ph] [(0, .ref (A 0)), (1, .int (nI a0)), (2, .int (nI b0)), (3, .int (nI c0))] 32 [] := by
                  intro n_32
                  induction n_32 with
                  | zero => intro c0 hc h3 hm_32; exact absurd hm_32 (Nat.not_lt_zero _)
                  | succ n_32 ih_32 =>
                    intro c0 hc h3 hm_32
                    refine g_iload_n F 3 rfl dX11_holds_32 ?_
                    refine g_aload_n F 0 rfl dX11_holds_33 ?_
                    refine g_get F 11 0 0 inX11 rfl rfl (by decide) tw_fl_X11_50 rfl dX11_holds_34 ?_
                    refine n_icmp_ge F 109 dX11_holds_37 (by decide) (by omega) (by omega) (fun c_37 => ?_) (fun c_37 => ?_)
                    · refine g_iinc F (nI (b0 + 1)) 2 2 [(0, .ref (A 0)), (1, .int (nI a0)), (2, .int (nI (b0 + 1))), (3, .int (nI c0))] [1, 2, 0, 3] dX11_holds_109 rfl (n_inc b0) (by decide) rfl ?_
                      refine g_goto F 22 dX11_holds_112 (by decide) ?_
                      refine g_lv [0, 1, 2] [(0, .ref (A 0)), (1, .int (nI a0)), (2, .int (nI (b0 + 1)))] rfl ?_
                      exact ih_22 (b0 + 1) (by omega) (lt_s h2 (fun z hz => h3 z (by omega))) (by omega)
                    · refine g_aload_n F 0 rfl dX11_holds_40 ?_
                      refine g_get F 11 0 4 inX11 rfl rfl (by decide) tw_fl_X11_16 rfl dX11_holds_41 ?_
                      refine g_bipush F (nI 60) (by decide) dX11_holds_44 ?_
                      refine g_iload_n F 1 rfl dX11_holds_46 ?_
                      refine n_mul F dX11_holds_47 ?_
                      refine g_top (nI (a0 * 60)) (by rw [Nat.mul_comm]) ?_
                      refine g_iload_n F 3 rfl dX11_holds_48 ?_
                      refine n_add F dX11_holds_49 ?_
                      refine g_iald F 3 rfl (by omega) (by decide) dX11_holds_50 ?_
                      refine g_top (nI (tN (a0 * 60 + c0))) ((hK.2.2.2.2.1 (a0 * 60 + c0) (by omega)).1) ?_
                      refine g_aload_n F 0 rfl dX11_holds_51 ?_
                      refine g_get F 11 0 4 inX11 rfl rfl (by decide) tw_fl_X11_16 rfl dX11_holds_52 ?_
                      refine g_bipush F (nI 60) (by decide) dX11_holds_55 ?_
                      refine g_iload_n F 1 rfl dX11_holds_57 ?_
                      refine n_mul F dX11_holds_58 ?_
                      refine g_top (nI (a0 * 60)) (by rw [Nat.mul_comm]) ?_
                      refine g_iload_n F 2 rfl dX11_holds_59 ?_
                      refine n_add F dX11_holds_60 ?_
                      refine g_iald F 3 rfl (by omega) (by decide) dX11_holds_61 ?_
                      refine g_top (nI (tN (a0 * 60 + b0))) ((hK.2.2.2.2.1 (a0 * 60 + b0) (by omega)).1) ?_
                      refine g_aload_n F 0 rfl dX11_holds_62 ?_
                      refine g_get F 11 0 4 inX11 rfl rfl (by decide) tw_fl_X11_16 rfl dX11_holds_63 ?_
                      refine g_bipush F (nI 60) (by decide) dX11_holds_66 ?_
                      refine g_iload_n F 2 rfl dX11_holds_68 ?_
                      refine n_mul F dX11_holds_69 ?_
                      refine g_top (nI (b0 * 60)) (by rw [Nat.mul_comm]) ?_
                      refine g_iload_n F 3 rfl dX11_holds_70 ?_
                      refine n_add F dX11_holds_71 ?_
                      refine g_iald F 3 rfl (by omega) (by decide) dX11_holds_72 ?_
                      refine g_top (nI (tN (b0 * 60 + c0))) ((hK.2.2.2.2.1 (b0 * 60 + c0) (by omega)).1) ?_
                      refine n_add F dX11_holds_73 ?_
                      refine n_icmp_gt F 80 dX11_holds_74 (by decide) (by have := (hK.2.2.2.2.1 (a0 * 60 + c0) (by omega)).2; omega) (by have := (hK.2.2.2.2.1 (a0 * 60 + b0) (by omega)).2; have := (hK.2.2.2.2.1 (b0 * 60 + c0) (by omega)).2; omega) (fun c_74 => ?_) (fun c_74 => ?_)
                      · refine g_aload_n F 0 rfl dX11_holds_80 ?_
                        refine g_get F 11 0 10 inX11 rfl rfl (by decide) tw_fl_X11_32 rfl dX11_holds_81 ?_
                        refine g_iconst F (nI 0) (by decide) dX11_holds_84 ?_
                        refine g_iload_n F 1 rfl dX11_holds_85 ?_
                        refine g_iast F 8 [ob (A 0) 11 [.int (nI n), .int (nI kd), .ref (A 1), .ref (A 2), .ref (A 3), .ref (A 4), .int (nI rk), .ref (A 5), .ref (A 6), .ref (A 7), .ref (A 8), .ref (A 9), .ref (A 10), .ref (A 11), .int ps, .ref (A 12), .ref (A 13)], ia E (A 1) 60 ln, ia E (A 2) 480 pl, ia E (A 3) 3600 td, za E (A 4) 60 zi, ia E (A 5) 60 rf, ia E (A 6) 60 rg, ia E (A 7) 81 co, ia E (A 8) 3 (upd bs 0 (nI a0)), za E (A 9) 60 zt, ia E (A 10) 3600 al, ia E (A 11) 60 pp, ia E (A 12) 60 pw, ia E (A 13) 60 ph] rfl (by omega) (by decide) rfl dX11_holds_86 ?_
                        refine g_aload_n F 0 rfl dX11_holds_87 ?_
                        refine g_get F 11 0 10 inX11 rfl rfl (by decide) tw_fl_X11_32 rfl dX11_holds_88 ?_
                        refine g_iconst F (nI 1) (by decide) dX11_holds_91 ?_
                        refine g_iload_n F 2 rfl dX11_holds_92 ?_
                        refine g_iast F 8 [ob (A 0) 11 [.int (nI n), .int (nI kd), .ref (A 1), .ref (A 2), .ref (A 3), .ref (A 4), .int (nI rk), .ref (A 5), .ref (A 6), .ref (A 7), .ref (A 8), .ref (A 9), .ref (A 10), .ref (A 11), .int ps, .ref (A 12), .ref (A 13)], ia E (A 1) 60 ln, ia E (A 2) 480 pl, ia E (A 3) 3600 td, za E (A 4) 60 zi, ia E (A 5) 60 rf, ia E (A 6) 60 rg, ia E (A 7) 81 co, ia E (A 8) 3 (upd (upd bs 0 (nI a0)) 1 (nI b0)), za E (A 9) 60 zt, ia E (A 10) 3600 al, ia E (A 11) 60 pp, ia E (A 12) 60 pw, ia E (A 13) 60 ph] rfl (by omega) (by decide) rfl dX11_holds_93 ?_
                        refine g_aload_n F 0 rfl dX11_holds_94 ?_
                        refine g_get F 11 0 10 inX11 rfl rfl (by decide) tw_fl_X11_32 rfl dX11_holds_95 ?_
                        refine g_iconst F (nI 2) (by decide) dX11_holds_98 ?_
                        refine g_iload_n F 3 rfl dX11_holds_99 ?_
                        refine g_iast F 8 [ob (A 0) 11 [.int (nI n), .int (nI kd), .ref (A 1), .ref (A 2), .ref (A 3), .ref (A 4), .int (nI rk), .ref (A 5), .ref (A 6), .ref (A 7), .ref (A 8), .ref (A 9), .ref (A 10), .ref (A 11), .int ps, .ref (A 12), .ref (A 13)], ia E (A 1) 60 ln, ia E (A 2) 480 pl, ia E (A 3) 3600 td, za E (A 4) 60 zi, ia E (A 5) 60 rf, ia E (A 6) 60 rg, ia E (A 7) 81 co, ia E (A 8) 3 (upd (upd (upd bs 0 (nI a0)) 1 (nI b0)) 2 (nI c0)), za E (A 9) 60 zt, ia E (A 10) 3600 al, ia E (A 11) 60 pp, ia E (A 12) 60 pw, ia E (A 13) 60 ph] rfl (by omega) (by decide) rfl dX11_holds_100 ?_
                        refine g_iconst F (nI 0) (by decide) dX11_holds_101 ?_
                        exact R _ (upd (upd (upd bs 0 (nI a0)) 1 (nI b0)) 2 (nI c0)) _ _ dX11_holds_102 (Or.inl rfl) (Or.inr ⟨rfl, by omega, a0, b0, c0, br_of2 (by omega) (by omega) (by omega) c_74 h1 h2 h3, rfl, rfl, rfl⟩)
                      · refine g_goto F 103 dX11_holds_77 (by decide) ?_
                        refine g_iinc F (nI (c0 + 1)) 3 3 [(0, .ref (A 0)), (1, .int (nI a0)), (2, .int (nI b0)), (3, .int (nI (c0 + 1)))] [1, 2, 3, 0] dX11_holds_103 rfl (n_inc c0) (by decide) rfl ?_
                        refine g_goto F 32 dX11_holds_106 (by decide) ?_
                        exact ih_32 (c0 + 1) (by omega) (lt_s h3 (by unfold bk; omega)) (by omega)
                exact lp_32 _ 0 (by omega) (fun x h => absurd h (Nat.not_lt_zero x)) (Nat.lt_succ_self _)
          exact lp_22 _ 0 (by omega) (fun x h => absurd h (Nat.not_lt_zero x)) (Nat.lt_succ_self _)
    exact lp_12 _ 0 (by omega) (fun x h => absurd h (Nat.not_lt_zero x)) (Nat.lt_succ_self _)
  · refine g_iconst F (nI 1) (by decide) dX11_holds_8 ?_
    exact R _ bs _ _ dX11_holds_9 (Or.inr rfl) (Or.inl ⟨rfl, fun z => absurd z (by omega)⟩)

set_option maxHeartbeats 4000000 in
set_option maxRecDepth 100000 in
theorem c_X11_inBook (E : Ev) (A : Nat → Nat) (ln : Nat → Int32) (pl : Nat → Int32) (td : Nat → Int32) (zi : Nat → Int32) (rf : Nat → Int32) (rg : Nat → Int32) (co : Nat → Int32) (bs : Nat → Int32) (zt : Nat → Int32) (al : Nat → Int32) (pp : Nat → Int32) (pw : Nat → Int32) (ph : Nat → Int32) (n : Nat) (kd : Nat) (rk : Nat) (ps : Int32) (L : Nat → Nat) (tN : Nat → Nat) (I : Nat → Bool) (hK : MDK n kd L ln pl tN td) (hZ : ZI n zi I) : RDi E yX11_inBook (wq yX11_inBook cX11_inBook 3 (some .int)) (rmk 0 0) [.ref (A 0)] [ob (A 0) 11 [.int (nI n), .int (nI kd), .ref (A 1), .ref (A 2), .ref (A 3), .ref (A 4), .int (nI rk), .ref (A 5), .ref (A 6), .ref (A 7), .ref (A 8), .ref (A 9), .ref (A 10), .ref (A 11), .int ps, .ref (A 12), .ref (A 13)], ia E (A 1) 60 ln, ia E (A 2) 480 pl, ia E (A 3) 3600 td, za E (A 4) 60 zi, ia E (A 5) 60 rf, ia E (A 6) 60 rg, ia E (A 7) 81 co, ia E (A 8) 3 bs, za E (A 9) 60 zt, ia E (A 10) 3600 al, ia E (A 11) 60 pp, ia E (A 12) 60 pw, ia E (A 13) 60 ph] (nI (cI I n)) := by
  refine CTi.of (by decide) (Nat.le_of_ble_eq_true rfl) (fun X F R => ?_)
  refine g_lv [0] [(0, .ref (A 0))] rfl ?_
  have hn60 := hK.1
  refine g_iconst F (nI 0) (by decide) dX11_inBook_0 ?_
  refine g_istore_n F 1 [(0, .ref (A 0)), (1, .int (nI 0))] [1, 0] dX11_inBook_1 rfl (by decide) rfl ?_
  refine g_iconst F (nI 0) (by decide) dX11_inBook_2 ?_
  refine g_istore_n F 2 [(0, .ref (A 0)), (1, .int (nI 0)), (2, .int (nI 0))] [1, 2, 0] dX11_inBook_3 rfl (by decide) rfl ?_
  have lp_4 : ∀ (n_4 : Nat) (i : Nat), (i ≤ n) → n - i < n_4 → GW E X 0 0 [ob (A 0) 11 [.int (nI n), .int (nI kd), .ref (A 1), .ref (A 2), .ref (A 3), .ref (A 4), .int (nI rk), .ref (A 5), .ref (A 6), .ref (A 7), .ref (A 8), .ref (A 9), .ref (A 10), .ref (A 11), .int ps, .ref (A 12), .ref (A 13)], ia E (A 1) 60 ln, ia E (A 2) 480 pl, ia E (A 3) 3600 td, za E (A 4) 60 zi, ia E (A 5) 60 rf, ia E (A 6) 60 rg, ia E (A 7) 81 co, ia E (A 8) 3 bs, za E (A 9) 60 zt, ia E (A 10) 3600 al, ia E (A 11) 60 pp, ia E (A 12) 60 pw, ia E (A 13) 60 ph] [(0, .ref (A 0)), (1, .int (nI (cI I i))), (2, .int (nI i))] 4 [] := by
    intro n_4
    induction n_4 with
    | zero => intro i hi hm_4; exact absurd hm_4 (Nat.not_lt_zero _)
    | succ n_4 ih_4 =>
      intro i hi hm_4
      refine g_iload_n F 2 rfl dX11_inBook_4 ?_
      refine g_aload_n F 0 rfl dX11_inBook_5 ?_
      refine g_get F 11 0 0 inX11 rfl rfl (by decide) tw_fl_X11_50 rfl dX11_inBook_6 ?_
      refine n_icmp_ge F 35 dX11_inBook_9 (by decide) (by omega) (by omega) (fun c_9 => ?_) (fun c_9 => ?_)
      · refine g_iload_n F 1 rfl dX11_inBook_35 ?_
        exact R _ (()) _ _ dX11_inBook_36 (by rw [show i = n by omega])
      · refine g_iload_n F 1 rfl dX11_inBook_12 ?_
        refine g_aload_n F 0 rfl dX11_inBook_13 ?_
        refine g_get F 11 0 5 inX11 rfl rfl (by decide) tw_fl_X11_19 rfl dX11_inBook_14 ?_
        refine g_iload_n F 2 rfl dX11_inBook_17 ?_
        refine g_zald F 4 rfl (by omega) (by decide) dX11_inBook_18 ?_
        refine g_top (bI (I i)) (hZ.1 i (by omega)) ?_
        refine b_if_eq F 26 dX11_inBook_19 (by decide) (fun c_19 => ?_) (fun c_19 => ?_)
        · refine g_iconst F (nI 0) (by decide) dX11_inBook_26 ?_
          refine n_add F dX11_inBook_27 ?_
          refine g_top (nI (cI I (i + 1))) (congrArg nI (by first | exact cI_1 c_19 | exact cI_0 c_19)) ?_
          refine g_istore_n F 1 [(0, .ref (A 0)), (1, .int (nI (cI I (i + 1)))), (2, .int (nI i))] [1, 0, 2] dX11_inBook_28 rfl (by decide) rfl ?_
          refine g_iinc F (nI (i + 1)) 2 2 [(0, .ref (A 0)), (1, .int (nI (cI I (i + 1)))), (2, .int (nI (i + 1)))] [1, 2, 0] dX11_inBook_29 rfl (n_inc i) (by decide) rfl ?_
          refine g_goto F 4 dX11_inBook_32 (by decide) ?_
          exact ih_4 (i + 1) (by omega) (by omega)
        · refine g_iconst F (nI 1) (by decide) dX11_inBook_22 ?_
          refine g_goto F 27 dX11_inBook_23 (by decide) ?_
          refine n_add F dX11_inBook_27 ?_
          refine g_top (nI (cI I (i + 1))) (congrArg nI (by first | exact cI_1 c_19 | exact cI_0 c_19)) ?_
          refine g_istore_n F 1 [(0, .ref (A 0)), (1, .int (nI (cI I (i + 1)))), (2, .int (nI i))] [1, 0, 2] dX11_inBook_28 rfl (by decide) rfl ?_
          refine g_iinc F (nI (i + 1)) 2 2 [(0, .ref (A 0)), (1, .int (nI (cI I (i + 1)))), (2, .int (nI (i + 1)))] [1, 2, 0] dX11_inBook_29 rfl (n_inc i) (by decide) rfl ?_
          refine g_goto F 4 dX11_inBook_32 (by decide) ?_
          exact ih_4 (i + 1) (by omega) (by omega)
  exact lp_4 _ 0 (by omega) (Nat.lt_succ_self _)

set_option maxHeartbeats 4000000 in
set_option maxRecDepth 100000 in
theorem c_X11_takesNone (E : Ev) (A : Nat → Nat) (ln : Nat → Int32) (pl : Nat → Int32) (td : Nat → Int32) (zi : Nat → Int32) (rf : Nat → Int32) (rg : Nat → Int32) (co : Nat → Int32) (bs : Nat → Int32) (zt : Nat → Int32) (al : Nat → Int32) (pp : Nat → Int32) (pw : Nat → Int32) (ph : Nat → Int32) (n : Nat) (kd : Nat) (rk : Nat) (ps : Int32) (L : Nat → Nat) (tN : Nat → Nat) (I : Nat → Bool) (hK : MDK n kd L ln pl tN td) (hZ : ZI n zi I) : CTv E yX11_takesNone (wq yX11_takesNone cX11_takesNone 2 none) (rmk 0 0) [.ref (A 0)] [ob (A 0) 11 [.int (nI n), .int (nI kd), .ref (A 1), .ref (A 2), .ref (A 3), .ref (A 4), .int (nI rk), .ref (A 5), .ref (A 6), .ref (A 7), .ref (A 8), .ref (A 9), .ref (A 10), .ref (A 11), .int ps, .ref (A 12), .ref (A 13)], ia E (A 1) 60 ln, ia E (A 2) 480 pl, ia E (A 3) 3600 td, za E (A 4) 60 zi, ia E (A 5) 60 rf, ia E (A 6) 60 rg, ia E (A 7) 81 co, ia E (A 8) 3 bs, za E (A 9) 60 zt, ia E (A 10) 3600 al, ia E (A 11) 60 pp, ia E (A 12) 60 pw, ia E (A 13) 60 ph] (fun (u : (Nat → Int32)) => ∀ t, t < 60 → u t = bI false) (fun (u : (Nat → Int32)) => [ob (A 0) 11 [.int (nI n), .int (nI kd), .ref (A 1), .ref (A 2), .ref (A 3), .ref (A 4), .int (nI rk), .ref (A 5), .ref (A 6), .ref (A 7), .ref (A 8), .ref (A 9), .ref (A 10), .ref (A 11), .int ps, .ref (A 12), .ref (A 13)], ia E (A 1) 60 ln, ia E (A 2) 480 pl, ia E (A 3) 3600 td, za E (A 4) 60 zi, ia E (A 5) 60 rf, ia E (A 6) 60 rg, ia E (A 7) 81 co, ia E (A 8) 3 bs, za E (A 9) 60 u, ia E (A 10) 3600 al, ia E (A 11) 60 pp, ia E (A 12) 60 pw, ia E (A 13) 60 ph]) := by
  refine CTv.of (by decide) (Nat.le_of_ble_eq_true rfl) (fun X F R => ?_)
  refine g_lv [0] [(0, .ref (A 0))] rfl ?_
  have hn60 := hK.1
  refine g_iconst F (nI 0) (by decide) dX11_takesNone_0 ?_
  refine g_istore_n F 1 [(0, .ref (A 0)), (1, .int (nI 0))] [1, 0] dX11_takesNone_1 rfl (by decide) rfl ?_
  have lp_2 : ∀ (n_2 : Nat) (i : Nat) (g : Nat → Int32), (i ≤ 60) → (∀ t, t < i → g t = bI false) → 60 - i < n_2 → GW E X 0 0 [ob (A 0) 11 [.int (nI n), .int (nI kd), .ref (A 1), .ref (A 2), .ref (A 3), .ref (A 4), .int (nI rk), .ref (A 5), .ref (A 6), .ref (A 7), .ref (A 8), .ref (A 9), .ref (A 10), .ref (A 11), .int ps, .ref (A 12), .ref (A 13)], ia E (A 1) 60 ln, ia E (A 2) 480 pl, ia E (A 3) 3600 td, za E (A 4) 60 zi, ia E (A 5) 60 rf, ia E (A 6) 60 rg, ia E (A 7) 81 co, ia E (A 8) 3 bs, za E (A 9) 60 g, ia E (A 10) 3600 al, ia E (A 11) 60 pp, ia E (A 12) 60 pw, ia E (A 13) 60 ph] [(0, .ref (A 0)), (1, .int (nI i))] 2 [] := by
    intro n_2
    induction n_2 with
    | zero => intro i g hi hg hm_2; exact absurd hm_2 (Nat.not_lt_zero _)
    | succ n_2 ih_2 =>
      intro i g hi hg hm_2
      refine g_iload_n F 1 rfl dX11_takesNone_2 ?_
      refine g_bipush F (nI 60) (by decide) dX11_takesNone_3 ?_
      refine n_icmp_ge F 21 dX11_takesNone_5 (by decide) (by omega) (by omega) (fun c_5 => ?_) (fun c_5 => ?_)
      · exact R g _ _ dX11_takesNone_21 (fun t ht => hg t (by omega))
      · refine g_aload_n F 0 rfl dX11_takesNone_8 ?_
        refine g_get F 11 0 11 inX11 rfl rfl (by decide) tw_fl_X11_35 rfl dX11_takesNone_9 ?_
        refine g_iload_n F 1 rfl dX11_takesNone_12 ?_
        refine g_iconst F (nI 0) (by decide) dX11_takesNone_13 ?_
        refine g_zast F 9 [ob (A 0) 11 [.int (nI n), .int (nI kd), .ref (A 1), .ref (A 2), .ref (A 3), .ref (A 4), .int (nI rk), .ref (A 5), .ref (A 6), .ref (A 7), .ref (A 8), .ref (A 9), .ref (A 10), .ref (A 11), .int ps, .ref (A 12), .ref (A 13)], ia E (A 1) 60 ln, ia E (A 2) 480 pl, ia E (A 3) 3600 td, za E (A 4) 60 zi, ia E (A 5) 60 rf, ia E (A 6) 60 rg, ia E (A 7) 81 co, ia E (A 8) 3 bs, za E (A 9) 60 (upd g i (nI 0)), ia E (A 10) 3600 al, ia E (A 11) 60 pp, ia E (A 12) 60 pw, ia E (A 13) 60 ph] rfl (by omega) (by decide) (Or.inl rfl) rfl dX11_takesNone_14 ?_
        refine g_iinc F (nI (i + 1)) 1 1 [(0, .ref (A 0)), (1, .int (nI (i + 1)))] [1, 0] dX11_takesNone_15 rfl (n_inc i) (by decide) rfl ?_
        refine g_goto F 2 dX11_takesNone_18 (by decide) ?_
        exact ih_2 (i + 1) (upd g i (nI 0)) (by omega) (lt_s (fun t ht => (pk_un (by omega)).trans (hg t ht)) pk_us) (by omega)
  exact lp_2 _ 0 zt (by omega) (fun t h => absurd h (Nat.not_lt_zero t)) (Nat.lt_succ_self _)

set_option maxHeartbeats 4000000 in
set_option maxRecDepth 100000 in
theorem c_X11_gives (E : Ev) (A : Nat → Nat) (ln : Nat → Int32) (pl : Nat → Int32) (td : Nat → Int32) (zi : Nat → Int32) (rf : Nat → Int32) (rg : Nat → Int32) (co : Nat → Int32) (bs : Nat → Int32) (zt : Nat → Int32) (al : Nat → Int32) (pp : Nat → Int32) (pw : Nat → Int32) (ph : Nat → Int32) (n : Nat) (kd : Nat) (rk : Nat) (ps : Int32) (L : Nat → Nat) (tN : Nat → Nat) (I : Nat → Bool) (t0 : Nat) (x : Int32) (hK : MDK n kd L ln pl tN td) (hZ : ZI n zi I) (ht0 : t0 < 60) (hrk : rk < 60) : CTv E yX11_gives (wq yX11_gives cX11_gives 3 none) (rmk 0 0) [.ref (A 0), .int (nI t0), .int x] [ob (A 0) 11 [.int (nI n), .int (nI kd), .ref (A 1), .ref (A 2), .ref (A 3), .ref (A 4), .int (nI rk), .ref (A 5), .ref (A 6), .ref (A 7), .ref (A 8), .ref (A 9), .ref (A 10), .ref (A 11), .int ps, .ref (A 12), .ref (A 13)], ia E (A 1) 60 ln, ia E (A 2) 480 pl, ia E (A 3) 3600 td, za E (A 4) 60 zi, ia E (A 5) 60 rf, ia E (A 6) 60 rg, ia E (A 7) 81 co, ia E (A 8) 3 bs, za E (A 9) 60 zt, ia E (A 10) 3600 al, ia E (A 11) 60 pp, ia E (A 12) 60 pw, ia E (A 13) 60 ph] (fun (u : Unit) => True) (fun (u : Unit) => [ob (A 0) 11 [.int (nI n), .int (nI kd), .ref (A 1), .ref (A 2), .ref (A 3), .ref (A 4), .int (nI (rk + 1)), .ref (A 5), .ref (A 6), .ref (A 7), .ref (A 8), .ref (A 9), .ref (A 10), .ref (A 11), .int ps, .ref (A 12), .ref (A 13)], ia E (A 1) 60 ln, ia E (A 2) 480 pl, ia E (A 3) 3600 td, za E (A 4) 60 zi, ia E (A 5) 60 (upd rf rk (nI t0)), ia E (A 6) 60 (upd rg rk x), ia E (A 7) 81 co, ia E (A 8) 3 bs, za E (A 9) 60 (upd zt t0 (nI 1)), ia E (A 10) 3600 al, ia E (A 11) 60 pp, ia E (A 12) 60 pw, ia E (A 13) 60 ph]) := by
  refine CTv.of (by decide) (Nat.le_of_ble_eq_true rfl) (fun X F R => ?_)
  refine g_lv [0, 1, 2] [(0, .ref (A 0)), (1, .int (nI t0)), (2, .int x)] rfl ?_
  refine g_aload_n F 0 rfl dX11_gives_0 ?_
  refine g_get F 11 0 7 inX11 rfl rfl (by decide) tw_fl_X11_23 rfl dX11_gives_1 ?_
  refine g_aload_n F 0 rfl dX11_gives_4 ?_
  refine g_get F 11 0 6 inX11 rfl rfl (by decide) tw_fl_X11_93 rfl dX11_gives_5 ?_
  refine g_iload_n F 1 rfl dX11_gives_8 ?_
  refine g_iast F 5 [ob (A 0) 11 [.int (nI n), .int (nI kd), .ref (A 1), .ref (A 2), .ref (A 3), .ref (A 4), .int (nI rk), .ref (A 5), .ref (A 6), .ref (A 7), .ref (A 8), .ref (A 9), .ref (A 10), .ref (A 11), .int ps, .ref (A 12), .ref (A 13)], ia E (A 1) 60 ln, ia E (A 2) 480 pl, ia E (A 3) 3600 td, za E (A 4) 60 zi, ia E (A 5) 60 (upd rf rk (nI t0)), ia E (A 6) 60 rg, ia E (A 7) 81 co, ia E (A 8) 3 bs, za E (A 9) 60 zt, ia E (A 10) 3600 al, ia E (A 11) 60 pp, ia E (A 12) 60 pw, ia E (A 13) 60 ph] rfl (by omega) (by decide) rfl dX11_gives_9 ?_
  refine g_aload_n F 0 rfl dX11_gives_10 ?_
  refine g_get F 11 0 8 inX11 rfl rfl (by decide) tw_fl_X11_26 rfl dX11_gives_11 ?_
  refine g_aload_n F 0 rfl dX11_gives_14 ?_
  refine g_get F 11 0 6 inX11 rfl rfl (by decide) tw_fl_X11_93 rfl dX11_gives_15 ?_
  refine g_iload_n F 2 rfl dX11_gives_18 ?_
  refine g_iast F 6 [ob (A 0) 11 [.int (nI n), .int (nI kd), .ref (A 1), .ref (A 2), .ref (A 3), .ref (A 4), .int (nI rk), .ref (A 5), .ref (A 6), .ref (A 7), .ref (A 8), .ref (A 9), .ref (A 10), .ref (A 11), .int ps, .ref (A 12), .ref (A 13)], ia E (A 1) 60 ln, ia E (A 2) 480 pl, ia E (A 3) 3600 td, za E (A 4) 60 zi, ia E (A 5) 60 (upd rf rk (nI t0)), ia E (A 6) 60 (upd rg rk x), ia E (A 7) 81 co, ia E (A 8) 3 bs, za E (A 9) 60 zt, ia E (A 10) 3600 al, ia E (A 11) 60 pp, ia E (A 12) 60 pw, ia E (A 13) 60 ph] rfl (by omega) (by decide) rfl dX11_gives_19 ?_
  refine g_aload_n F 0 rfl dX11_gives_20 ?_
  refine g_dup F rfl dX11_gives_21 ?_
  refine g_get F 11 0 6 inX11 rfl rfl (by decide) tw_fl_X11_93 rfl dX11_gives_22 ?_
  refine g_iconst F (nI 1) (by decide) dX11_gives_25 ?_
  refine n_add F dX11_gives_26 ?_
  refine g_put F 11 0 6 [ob (A 0) 11 [.int (nI n), .int (nI kd), .ref (A 1), .ref (A 2), .ref (A 3), .ref (A 4), .int (nI (rk + 1)), .ref (A 5), .ref (A 6), .ref (A 7), .ref (A 8), .ref (A 9), .ref (A 10), .ref (A 11), .int ps, .ref (A 12), .ref (A 13)], ia E (A 1) 60 ln, ia E (A 2) 480 pl, ia E (A 3) 3600 td, za E (A 4) 60 zi, ia E (A 5) 60 (upd rf rk (nI t0)), ia E (A 6) 60 (upd rg rk x), ia E (A 7) 81 co, ia E (A 8) 3 bs, za E (A 9) 60 zt, ia E (A 10) 3600 al, ia E (A 11) 60 pp, ia E (A 12) 60 pw, ia E (A 13) 60 ph] inX11 tyX11_ok nmX11 rfl rfl (by decide) tw_fl_X11_93 rfl rfl rfl rfl (Nat.le_of_ble_eq_true rfl) rfl dX11_gives_27 ?_
  refine g_aload_n F 0 rfl dX11_gives_30 ?_
  refine g_get F 11 0 11 inX11 rfl rfl (by decide) tw_fl_X11_35 rfl dX11_gives_31 ?_
  refine g_iload_n F 1 rfl dX11_gives_34 ?_
  refine g_iconst F (nI 1) (by decide) dX11_gives_35 ?_
  refine g_zast F 9 [ob (A 0) 11 [.int (nI n), .int (nI kd), .ref (A 1), .ref (A 2), .ref (A 3), .ref (A 4), .int (nI (rk + 1)), .ref (A 5), .ref (A 6), .ref (A 7), .ref (A 8), .ref (A 9), .ref (A 10), .ref (A 11), .int ps, .ref (A 12), .ref (A 13)], ia E (A 1) 60 ln, ia E (A 2) 480 pl, ia E (A 3) 3600 td, za E (A 4) 60 zi, ia E (A 5) 60 (upd rf rk (nI t0)), ia E (A 6) 60 (upd rg rk x), ia E (A 7) 81 co, ia E (A 8) 3 bs, za E (A 9) 60 (upd zt t0 (nI 1)), ia E (A 10) 3600 al, ia E (A 11) 60 pp, ia E (A 12) 60 pw, ia E (A 13) 60 ph] rfl (by omega) (by decide) (Or.inr rfl) rfl dX11_gives_36 ?_
  exact R (()) _ _ dX11_gives_37 (trivial)

theorem lie_r {x : Int32} {hi : Nat} (hhi : hi < 2 ^ 31) (h1 : ¬ x < nI 0) (h2 : ¬ nI hi < x) : ∃ j, j ≤ hi ∧ x = nI j := ge_rng hhi (by rw [← nI_0]; exact h1) h2
theorem lie_n {x : Int32} {hi : Nat} (hhi : hi < 2 ^ 31) (h : x < nI 0 ∨ nI hi < x) : ∀ j, j ≤ hi → x ≠ nI j := ge_no hhi (by rw [← nI_0]; exact h)

set_option maxHeartbeats 4000000 in
set_option maxRecDepth 100000 in
theorem c_X11_thing (E : Ev) (A : Nat → Nat) (ln : Nat → Int32) (pl : Nat → Int32) (td : Nat → Int32) (zi : Nat → Int32) (rf : Nat → Int32) (rg : Nat → Int32) (co : Nat → Int32) (bs : Nat → Int32) (zt : Nat → Int32) (al : Nat → Int32) (pp : Nat → Int32) (pw : Nat → Int32) (ph : Nat → Int32) (n : Nat) (kd : Nat) (rk : Nat) (ps : Int32) (L : Nat → Nat) (tN : Nat → Nat) (I : Nat → Bool) (rt : Nat → Nat) (ra : Nat → Nat) (x : Int32) (hK : MDK n kd L ln pl tN td) (hZ : ZI n zi I) (hR : NBR rk rf rg rt ra) : CTi E yX11_thing (wq yX11_thing cX11_thing 2 (some .int)) (rmk 1 22) [.ref (A 0), .int x] [ob (A 0) 11 [.int (nI n), .int (nI kd), .ref (A 1), .ref (A 2), .ref (A 3), .ref (A 4), .int (nI rk), .ref (A 5), .ref (A 6), .ref (A 7), .ref (A 8), .ref (A 9), .ref (A 10), .ref (A 11), .int ps, .ref (A 12), .ref (A 13)], ia E (A 1) 60 ln, ia E (A 2) 480 pl, ia E (A 3) 3600 td, za E (A 4) 60 zi, ia E (A 5) 60 rf, ia E (A 6) 60 rg, ia E (A 7) 81 co, ia E (A 8) 3 bs, za E (A 9) 60 zt, ia E (A 10) 3600 al, ia E (A 11) 60 pp, ia E (A 12) 60 pw, ia E (A 13) 60 ph] (fun (r : Int32) (u : Nat × (Nat → Int32)) => (∃ v0, v0 ≤ 8 ∧ x = nI v0 ∧ n < 60 ∧ r = nI n ∧ u.1 = n + 1 ∧ u.2 = upd ln n x) ∨ ((n = 60 ∨ ∀ v0, v0 ≤ 8 → x ≠ nI v0) ∧ r = -1 ∧ u.1 = n ∧ u.2 = ln)) (fun (u : Nat × (Nat → Int32)) => [ob (A 0) 11 [.int (nI u.1), .int (nI kd), .ref (A 1), .ref (A 2), .ref (A 3), .ref (A 4), .int (nI rk), .ref (A 5), .ref (A 6), .ref (A 7), .ref (A 8), .ref (A 9), .ref (A 10), .ref (A 11), .int ps, .ref (A 12), .ref (A 13)], ia E (A 1) 60 u.2, ia E (A 2) 480 pl, ia E (A 3) 3600 td, za E (A 4) 60 zi, ia E (A 5) 60 rf, ia E (A 6) 60 rg, ia E (A 7) 81 co, ia E (A 8) 3 bs, za E (A 9) 60 zt, ia E (A 10) 3600 al, ia E (A 11) 60 pp, ia E (A 12) 60 pw, ia E (A 13) 60 ph]) := by
  refine CTi.of (by decide) (Nat.le_of_ble_eq_true rfl) (fun X F R => ?_)
  refine g_lv [0, 1] [(0, .ref (A 0)), (1, .int x)] rfl ?_
  have hn60 := hK.1
  refine g_iload_n F 1 rfl dX11_thing_0 ?_
  refine g_iconst F (nI 0) (by decide) dX11_thing_1 ?_
  refine g_bipush F (nI 8) (by decide) dX11_thing_2 ?_
  refine g_cSi F (wr := [ob (A 0) 11 [.int (nI n), .int (nI kd), .ref (A 1), .ref (A 2), .ref (A 3), .ref (A 4), .int (nI rk), .ref (A 5), .ref (A 6), .ref (A 7), .ref (A 8), .ref (A 9), .ref (A 10), .ref (A 11), .int ps, .ref (A 12), .ref (A 13)], ia E (A 1) 60 ln, ia E (A 2) 480 pl, ia E (A 3) 3600 td, za E (A 4) 60 zi, ia E (A 5) 60 rf, ia E (A 6) 60 rg, ia E (A 7) 81 co, ia E (A 8) 3 bs, za E (A 9) 60 zt, ia E (A 10) 3600 al, ia E (A 11) 60 pp, ia E (A 12) 60 pw, ia E (A 13) 60 ph]) [] (c_X11_lies E x (nI 0) (nI 8) ) ⟨tw_ml_X11_54, tw_sm_X11_lies, tw_in_X11, tw_co_X11_lies⟩ 3 rfl (by decide) ⟨rfl, rfl, by decide, by decide, Nat.zero_le _, Nat.zero_le _⟩ [] [0, 1, 2, 3, 4, 5, 6, 7, 8, 9, 10, 11, 12, 13] [0, 1, 2, 3, 4, 5, 6, 7, 8, 9, 10, 11, 12, 13] (fun u => [ob (A 0) 11 [.int (nI n), .int (nI kd), .ref (A 1), .ref (A 2), .ref (A 3), .ref (A 4), .int (nI rk), .ref (A 5), .ref (A 6), .ref (A 7), .ref (A 8), .ref (A 9), .ref (A 10), .ref (A 11), .int ps, .ref (A 12), .ref (A 13)], ia E (A 1) 60 ln, ia E (A 2) 480 pl, ia E (A 3) 3600 td, za E (A 4) 60 zi, ia E (A 5) 60 rf, ia E (A 6) 60 rg, ia E (A 7) 81 co, ia E (A 8) 3 bs, za E (A 9) 60 zt, ia E (A 10) 3600 al, ia E (A 11) 60 pp, ia E (A 12) 60 pw, ia E (A 13) 60 ph]) rfl rfl (by decide) (fun _ => rfl) rfl (Nat.le_of_ble_eq_true rfl) dX11_thing_4 (fun r_4 u hu_4 => ?_)
  rcases hu_4 with ⟨rfl, l1_4, l2_4⟩ | ⟨rfl, l0_4⟩
  · refine g_if_eq F 19 dX11_thing_7 (by decide) (fun h => absurd h (by decide)) (fun _ => ?_)
    refine g_aload_n F 0 rfl dX11_thing_10 ?_
    refine g_get F 11 0 0 inX11 rfl rfl (by decide) tw_fl_X11_50 rfl dX11_thing_11 ?_
    refine g_bipush F (nI 60) (by decide) dX11_thing_14 ?_
    refine n_icmp_ne F 21 dX11_thing_16 (by decide) (by omega) (by omega) (fun c_16 => ?_) (fun c_16 => ?_)
    · refine g_aload_n F 0 rfl dX11_thing_21 ?_
      refine g_get F 11 0 2 inX11 rfl rfl (by decide) tw_fl_X11_7 rfl dX11_thing_22 ?_
      refine g_aload_n F 0 rfl dX11_thing_25 ?_
      refine g_get F 11 0 0 inX11 rfl rfl (by decide) tw_fl_X11_50 rfl dX11_thing_26 ?_
      refine g_iload_n F 1 rfl dX11_thing_29 ?_
      refine g_iast F 1 [ob (A 0) 11 [.int (nI n), .int (nI kd), .ref (A 1), .ref (A 2), .ref (A 3), .ref (A 4), .int (nI rk), .ref (A 5), .ref (A 6), .ref (A 7), .ref (A 8), .ref (A 9), .ref (A 10), .ref (A 11), .int ps, .ref (A 12), .ref (A 13)], ia E (A 1) 60 (upd ln n x), ia E (A 2) 480 pl, ia E (A 3) 3600 td, za E (A 4) 60 zi, ia E (A 5) 60 rf, ia E (A 6) 60 rg, ia E (A 7) 81 co, ia E (A 8) 3 bs, za E (A 9) 60 zt, ia E (A 10) 3600 al, ia E (A 11) 60 pp, ia E (A 12) 60 pw, ia E (A 13) 60 ph] rfl (by omega) (by decide) rfl dX11_thing_30 ?_
      refine g_aload_n F 0 rfl dX11_thing_31 ?_
      refine g_dup F rfl dX11_thing_32 ?_
      refine g_get F 11 0 0 inX11 rfl rfl (by decide) tw_fl_X11_50 rfl dX11_thing_33 ?_
      refine g_iconst F (nI 1) (by decide) dX11_thing_36 ?_
      refine n_add F dX11_thing_37 ?_
      refine g_put F 11 0 0 [ob (A 0) 11 [.int (nI (n + 1)), .int (nI kd), .ref (A 1), .ref (A 2), .ref (A 3), .ref (A 4), .int (nI rk), .ref (A 5), .ref (A 6), .ref (A 7), .ref (A 8), .ref (A 9), .ref (A 10), .ref (A 11), .int ps, .ref (A 12), .ref (A 13)], ia E (A 1) 60 (upd ln n x), ia E (A 2) 480 pl, ia E (A 3) 3600 td, za E (A 4) 60 zi, ia E (A 5) 60 rf, ia E (A 6) 60 rg, ia E (A 7) 81 co, ia E (A 8) 3 bs, za E (A 9) 60 zt, ia E (A 10) 3600 al, ia E (A 11) 60 pp, ia E (A 12) 60 pw, ia E (A 13) 60 ph] inX11 tyX11_ok nmX11 rfl rfl (by decide) tw_fl_X11_50 rfl rfl rfl rfl (Nat.le_of_ble_eq_true rfl) rfl dX11_thing_38 ?_
      refine g_aload_n F 0 rfl dX11_thing_41 ?_
      refine g_get F 11 0 0 inX11 rfl rfl (by decide) tw_fl_X11_50 rfl dX11_thing_42 ?_
      refine g_iconst F (nI 1) (by decide) dX11_thing_45 ?_
      refine n_sub F (by omega) dX11_thing_46 ?_
      refine g_top (nI n) (rfl) ?_
      exact R _ ((n + 1, upd ln n x)) _ _ dX11_thing_47 (by (try dsimp only); exact (by
          obtain ⟨j, hj, e9⟩ := lie_r (by decide) l1_4 l2_4
          exact Or.inl ⟨j, hj, e9, by omega, rfl, rfl, rfl⟩))
    · refine g_iconst F (-1) (by decide) dX11_thing_19 ?_
      exact R _ ((n, ln)) _ _ dX11_thing_20 (by (try dsimp only); exact (Or.inr ⟨Or.inl (by omega), rfl, rfl, rfl⟩))
  · refine g_if_eq F 19 dX11_thing_7 (by decide) (fun _ => ?_) (fun h => absurd (by decide) h)
    refine g_iconst F (-1) (by decide) dX11_thing_19 ?_
    exact R _ ((n, ln)) _ _ dX11_thing_20 (by (try dsimp only); exact (Or.inr ⟨Or.inr (lie_n (by decide) l0_4), rfl, rfl, rfl⟩))

set_option maxHeartbeats 4000000 in
set_option maxRecDepth 100000 in
theorem c_X11_value (E : Ev) (A : Nat → Nat) (ln : Nat → Int32) (pl : Nat → Int32) (td : Nat → Int32) (zi : Nat → Int32) (rf : Nat → Int32) (rg : Nat → Int32) (co : Nat → Int32) (bs : Nat → Int32) (zt : Nat → Int32) (al : Nat → Int32) (pp : Nat → Int32) (pw : Nat → Int32) (ph : Nat → Int32) (n : Nat) (kd : Nat) (rk : Nat) (ps : Int32) (L : Nat → Nat) (tN : Nat → Nat) (I : Nat → Bool) (rt : Nat → Nat) (ra : Nat → Nat) (x : Int32) (y : Int32) (z : Int32) (hK : MDK n kd L ln pl tN td) (hZ : ZI n zi I) (hR : NBR rk rf rg rt ra) : CTi E yX11_value (wq yX11_value cX11_value 4 (some .boolean)) (rmk 2 43) [.ref (A 0), .int x, .int y, .int z] [ob (A 0) 11 [.int (nI n), .int (nI kd), .ref (A 1), .ref (A 2), .ref (A 3), .ref (A 4), .int (nI rk), .ref (A 5), .ref (A 6), .ref (A 7), .ref (A 8), .ref (A 9), .ref (A 10), .ref (A 11), .int ps, .ref (A 12), .ref (A 13)], ia E (A 1) 60 ln, ia E (A 2) 480 pl, ia E (A 3) 3600 td, za E (A 4) 60 zi, ia E (A 5) 60 rf, ia E (A 6) 60 rg, ia E (A 7) 81 co, ia E (A 8) 3 bs, za E (A 9) 60 zt, ia E (A 10) 3600 al, ia E (A 11) 60 pp, ia E (A 12) 60 pw, ia E (A 13) 60 ph] (fun (r : Int32) (u : (Nat → Int32)) => (∃ t0 i0, OKV n L x y z t0 i0 ∧ r = 1 ∧ u = upd pl (t0 * 8 + i0) z) ∨ ((∀ t0 i0, ¬ OKV n L x y z t0 i0) ∧ r = 0 ∧ u = pl)) (fun (u : (Nat → Int32)) => [ob (A 0) 11 [.int (nI n), .int (nI kd), .ref (A 1), .ref (A 2), .ref (A 3), .ref (A 4), .int (nI rk), .ref (A 5), .ref (A 6), .ref (A 7), .ref (A 8), .ref (A 9), .ref (A 10), .ref (A 11), .int ps, .ref (A 12), .ref (A 13)], ia E (A 1) 60 ln, ia E (A 2) 480 u, ia E (A 3) 3600 td, za E (A 4) 60 zi, ia E (A 5) 60 rf, ia E (A 6) 60 rg, ia E (A 7) 81 co, ia E (A 8) 3 bs, za E (A 9) 60 zt, ia E (A 10) 3600 al, ia E (A 11) 60 pp, ia E (A 12) 60 pw, ia E (A 13) 60 ph]) := by
  refine CTi.ofZ (by decide) (Nat.le_of_ble_eq_true rfl) (fun X F R => ?_)
  refine g_lv [0, 1, 2, 3] [(0, .ref (A 0)), (1, .int x), (2, .int y), (3, .int z)] rfl ?_
  have hn60 := hK.1
  refine g_aload_n F 0 rfl dX11_value_0 ?_
  refine g_iload_n F 1 rfl dX11_value_1 ?_
  refine g_cVi F (wr := []) [] (c_X11_isThing E A ln pl td zi rf rg co bs zt al pp pw ph n kd rk ps L tN I x (hK) (hZ)) (gi_V tw_ml_X11_58 tw_im_X11_isThing tw_se_X11_isThing tw_in_X11 tw_co_X11_isThing) 1 rfl (by decide) ⟨rfl, rfl, by decide, by decide, Nat.zero_le _, Nat.zero_le _⟩ 11 0 rfl rfl [0, 1, 2, 3, 4, 5, 6, 7, 8, 9, 10, 11, 12, 13] [] [0, 1, 2, 3, 4, 5, 6, 7, 8, 9, 10, 11, 12, 13] (fun u => [ob (A 0) 11 [.int (nI n), .int (nI kd), .ref (A 1), .ref (A 2), .ref (A 3), .ref (A 4), .int (nI rk), .ref (A 5), .ref (A 6), .ref (A 7), .ref (A 8), .ref (A 9), .ref (A 10), .ref (A 11), .int ps, .ref (A 12), .ref (A 13)], ia E (A 1) 60 ln, ia E (A 2) 480 pl, ia E (A 3) 3600 td, za E (A 4) 60 zi, ia E (A 5) 60 rf, ia E (A 6) 60 rg, ia E (A 7) 81 co, ia E (A 8) 3 bs, za E (A 9) 60 zt, ia E (A 10) 3600 al, ia E (A 11) 60 pp, ia E (A 12) 60 pw, ia E (A 13) 60 ph]) rfl rfl (by decide) (fun _ => rfl) rfl (Nat.le_of_ble_eq_true rfl) dX11_value_2 (fun r_2 u hu_2 => ?_)
  rcases hu_2 with ⟨rfl, t_2, ht_2, rfl⟩ | ⟨rfl, hno_2⟩
  · refine g_if_eq F 37 dX11_value_5 (by decide) (fun h => absurd h (by decide)) (fun _ => ?_)
    refine g_iload_n F 2 rfl dX11_value_8 ?_
    refine g_iconst F (nI 0) (by decide) dX11_value_9 ?_
    refine g_aload_n F 0 rfl dX11_value_10 ?_
    refine g_get F 11 0 2 inX11 rfl rfl (by decide) tw_fl_X11_7 rfl dX11_value_11 ?_
    refine g_iload_n F 1 rfl dX11_value_14 ?_
    refine g_iald F 1 rfl (by omega) (by decide) dX11_value_15 ?_
    refine g_top (nI (L t_2)) ((hK.2.2.1 t_2 (by omega)).1) ?_
    refine g_iconst F (nI 1) (by decide) dX11_value_16 ?_
    refine g_isub F dX11_value_17 ?_
    refine g_cSi F (wr := [ob (A 0) 11 [.int (nI n), .int (nI kd), .ref (A 1), .ref (A 2), .ref (A 3), .ref (A 4), .int (nI rk), .ref (A 5), .ref (A 6), .ref (A 7), .ref (A 8), .ref (A 9), .ref (A 10), .ref (A 11), .int ps, .ref (A 12), .ref (A 13)], ia E (A 1) 60 ln, ia E (A 2) 480 pl, ia E (A 3) 3600 td, za E (A 4) 60 zi, ia E (A 5) 60 rf, ia E (A 6) 60 rg, ia E (A 7) 81 co, ia E (A 8) 3 bs, za E (A 9) 60 zt, ia E (A 10) 3600 al, ia E (A 11) 60 pp, ia E (A 12) 60 pw, ia E (A 13) 60 ph]) [] (c_X11_lies E y (nI 0) ((nI (L t_2)) - (nI 1)) ) ⟨tw_ml_X11_54, tw_sm_X11_lies, tw_in_X11, tw_co_X11_lies⟩ 3 rfl (by decide) ⟨rfl, rfl, by decide, by decide, Nat.zero_le _, Nat.zero_le _⟩ [] [0, 1, 2, 3, 4, 5, 6, 7, 8, 9, 10, 11, 12, 13] [0, 1, 2, 3, 4, 5, 6, 7, 8, 9, 10, 11, 12, 13] (fun u => [ob (A 0) 11 [.int (nI n), .int (nI kd), .ref (A 1), .ref (A 2), .ref (A 3), .ref (A 4), .int (nI rk), .ref (A 5), .ref (A 6), .ref (A 7), .ref (A 8), .ref (A 9), .ref (A 10), .ref (A 11), .int ps, .ref (A 12), .ref (A 13)], ia E (A 1) 60 ln, ia E (A 2) 480 pl, ia E (A 3) 3600 td, za E (A 4) 60 zi, ia E (A 5) 60 rf, ia E (A 6) 60 rg, ia E (A 7) 81 co, ia E (A 8) 3 bs, za E (A 9) 60 zt, ia E (A 10) 3600 al, ia E (A 11) 60 pp, ia E (A 12) 60 pw, ia E (A 13) 60 ph]) rfl rfl (by decide) (fun _ => rfl) rfl (Nat.le_of_ble_eq_true rfl) dX11_value_18 (fun r_18 u hu_18 => ?_)
    rcases hu_18 with ⟨rfl, l1_18, l2_18⟩ | ⟨rfl, l0_18⟩
    · refine g_if_eq F 37 dX11_value_21 (by decide) (fun h => absurd h (by decide)) (fun _ => ?_)
      refine g_iload_n F 3 rfl dX11_value_24 ?_
      refine g_sipush F (-1000) (by decide) dX11_value_25 ?_
      refine g_sipush F (nI 1000) (by decide) dX11_value_28 ?_
      refine g_cSi F (wr := [ob (A 0) 11 [.int (nI n), .int (nI kd), .ref (A 1), .ref (A 2), .ref (A 3), .ref (A 4), .int (nI rk), .ref (A 5), .ref (A 6), .ref (A 7), .ref (A 8), .ref (A 9), .ref (A 10), .ref (A 11), .int ps, .ref (A 12), .ref (A 13)], ia E (A 1) 60 ln, ia E (A 2) 480 pl, ia E (A 3) 3600 td, za E (A 4) 60 zi, ia E (A 5) 60 rf, ia E (A 6) 60 rg, ia E (A 7) 81 co, ia E (A 8) 3 bs, za E (A 9) 60 zt, ia E (A 10) 3600 al, ia E (A 11) 60 pp, ia E (A 12) 60 pw, ia E (A 13) 60 ph]) [] (c_X11_lies E z (-1000) (nI 1000) ) ⟨tw_ml_X11_54, tw_sm_X11_lies, tw_in_X11, tw_co_X11_lies⟩ 3 rfl (by decide) ⟨rfl, rfl, by decide, by decide, Nat.zero_le _, Nat.zero_le _⟩ [] [0, 1, 2, 3, 4, 5, 6, 7, 8, 9, 10, 11, 12, 13] [0, 1, 2, 3, 4, 5, 6, 7, 8, 9, 10, 11, 12, 13] (fun u => [ob (A 0) 11 [.int (nI n), .int (nI kd), .ref (A 1), .ref (A 2), .ref (A 3), .ref (A 4), .int (nI rk), .ref (A 5), .ref (A 6), .ref (A 7), .ref (A 8), .ref (A 9), .ref (A 10), .ref (A 11), .int ps, .ref (A 12), .ref (A 13)], ia E (A 1) 60 ln, ia E (A 2) 480 pl, ia E (A 3) 3600 td, za E (A 4) 60 zi, ia E (A 5) 60 rf, ia E (A 6) 60 rg, ia E (A 7) 81 co, ia E (A 8) 3 bs, za E (A 9) 60 zt, ia E (A 10) 3600 al, ia E (A 11) 60 pp, ia E (A 12) 60 pw, ia E (A 13) 60 ph]) rfl rfl (by decide) (fun _ => rfl) rfl (Nat.le_of_ble_eq_true rfl) dX11_value_31 (fun r_31 u hu_31 => ?_)
      rcases hu_31 with ⟨rfl, l1_31, l2_31⟩ | ⟨rfl, l0_31⟩
      · refine g_if_ne F 39 dX11_value_34 (by decide) (fun _ => ?_) (fun h => absurd h (by decide))
        obtain ⟨i0, hi0, rfl⟩ := (nsub1 (by have := (hK.2.2.1 t_2 (by omega)).2; omega)).mp ⟨l1_18, l2_18⟩
        have hl8 := (hK.2.2.1 t_2 (by omega)).2
        have hz1 : -1000 ≤ z.toInt := by
            have q := Int32.not_lt.mp l1_31
            rw [Int32.le_iff_toInt_le] at q
            exact q
        have hz2 : z.toInt ≤ 1000 := by
            have q := Int32.not_lt.mp l2_31
            rw [Int32.le_iff_toInt_le, nI_toInt (by decide)] at q
            exact q
        refine g_aload_n F 0 rfl dX11_value_39 ?_
        refine g_get F 11 0 3 inX11 rfl rfl (by decide) tw_fl_X11_13 rfl dX11_value_40 ?_
        refine g_bipush F (nI 8) (by decide) dX11_value_43 ?_
        refine g_iload_n F 1 rfl dX11_value_45 ?_
        refine n_mul F dX11_value_46 ?_
        refine g_top (nI (t_2 * 8)) (by rw [Nat.mul_comm]) ?_
        refine g_iload_n F 2 rfl dX11_value_47 ?_
        refine n_add F dX11_value_48 ?_
        refine g_iload_n F 3 rfl dX11_value_49 ?_
        refine g_iast F 2 [ob (A 0) 11 [.int (nI n), .int (nI kd), .ref (A 1), .ref (A 2), .ref (A 3), .ref (A 4), .int (nI rk), .ref (A 5), .ref (A 6), .ref (A 7), .ref (A 8), .ref (A 9), .ref (A 10), .ref (A 11), .int ps, .ref (A 12), .ref (A 13)], ia E (A 1) 60 ln, ia E (A 2) 480 (upd pl ((t_2 * 8) + i0) z), ia E (A 3) 3600 td, za E (A 4) 60 zi, ia E (A 5) 60 rf, ia E (A 6) 60 rg, ia E (A 7) 81 co, ia E (A 8) 3 bs, za E (A 9) 60 zt, ia E (A 10) 3600 al, ia E (A 11) 60 pp, ia E (A 12) 60 pw, ia E (A 13) 60 ph] rfl (by omega) (by decide) rfl dX11_value_50 ?_
        refine g_iconst F (nI 1) (by decide) dX11_value_51 ?_
        exact R _ (upd pl ((t_2 * 8) + i0) z) _ _ dX11_value_52 (Or.inr rfl) (Or.inl ⟨t_2, i0, ⟨ht_2, rfl, hi0, rfl, hz1, hz2⟩, rfl, rfl⟩)
      · refine g_if_ne F 39 dX11_value_34 (by decide) (fun h => absurd (by decide) h) (fun _ => ?_)
        refine g_iconst F (nI 0) (by decide) dX11_value_37 ?_
        exact R _ pl _ _ dX11_value_38 (Or.inl rfl) (Or.inr ⟨fun t0 i0 q => by
            have q5 := q.2.2.2.2
            rcases l0_31 with c | c
            · rw [Int32.lt_iff_toInt_lt] at c
              have c3 : z.toInt < -1000 := c
              omega
            · rw [Int32.lt_iff_toInt_lt, nI_toInt (by decide)] at c
              have c3 : (1000 : Int) < z.toInt := c
              omega, rfl, rfl⟩)
    · refine g_if_eq F 37 dX11_value_21 (by decide) (fun _ => ?_) (fun h => absurd (by decide) h)
      refine g_iconst F (nI 0) (by decide) dX11_value_37 ?_
      exact R _ pl _ _ dX11_value_38 (Or.inl rfl) (Or.inr ⟨fun t0 i0 q => by
          have e1 := (nI_eq (by omega) (by have := q.1; omega)).mp q.2.1
          have e2 := q.2.2.1
          rw [← e1] at e2
          exact nsub1n (by have := (hK.2.2.1 t_2 (by omega)).2; omega) l0_18 i0 e2 q.2.2.2.1, rfl, rfl⟩)
  · refine g_if_eq F 37 dX11_value_5 (by decide) (fun _ => ?_) (fun h => absurd (by decide) h)
    refine g_iconst F (nI 0) (by decide) dX11_value_37 ?_
    exact R _ pl _ _ dX11_value_38 (Or.inl rfl) (Or.inr ⟨fun t0 i0 q => hno_2 t0 q.1 q.2.1, rfl, rfl⟩)

set_option maxHeartbeats 4000000 in
set_option maxRecDepth 100000 in
theorem c_X11_tell (E : Ev) (A : Nat → Nat) (ln : Nat → Int32) (pl : Nat → Int32) (td : Nat → Int32) (zi : Nat → Int32) (rf : Nat → Int32) (rg : Nat → Int32) (co : Nat → Int32) (bs : Nat → Int32) (zt : Nat → Int32) (al : Nat → Int32) (pp : Nat → Int32) (pw : Nat → Int32) (ph : Nat → Int32) (n : Nat) (kd : Nat) (rk : Nat) (ps : Int32) (L : Nat → Nat) (tN : Nat → Nat) (I : Nat → Bool) (rt : Nat → Nat) (ra : Nat → Nat) (x : Int32) (y : Int32) (z : Int32) (hK : MDK n kd L ln pl tN td) (hZ : ZI n zi I) (hR : NBR rk rf rg rt ra) : CTi E yX11_tell (wq yX11_tell cX11_tell 4 (some .boolean)) (rmk 2 43) [.ref (A 0), .int x, .int y, .int z] [ob (A 0) 11 [.int (nI n), .int (nI kd), .ref (A 1), .ref (A 2), .ref (A 3), .ref (A 4), .int (nI rk), .ref (A 5), .ref (A 6), .ref (A 7), .ref (A 8), .ref (A 9), .ref (A 10), .ref (A 11), .int ps, .ref (A 12), .ref (A 13)], ia E (A 1) 60 ln, ia E (A 2) 480 pl, ia E (A 3) 3600 td, za E (A 4) 60 zi, ia E (A 5) 60 rf, ia E (A 6) 60 rg, ia E (A 7) 81 co, ia E (A 8) 3 bs, za E (A 9) 60 zt, ia E (A 10) 3600 al, ia E (A 11) 60 pp, ia E (A 12) 60 pw, ia E (A 13) 60 ph] (fun (r : Int32) (u : (Nat → Int32)) => (∃ p0 q0 e0, OKT n x y z p0 q0 e0 ∧ r = 1 ∧ u = upd (upd td (p0 * 60 + q0) z) (q0 * 60 + p0) z) ∨ ((∀ p0 q0 e0, ¬ OKT n x y z p0 q0 e0) ∧ r = 0 ∧ u = td)) (fun (u : (Nat → Int32)) => [ob (A 0) 11 [.int (nI n), .int (nI kd), .ref (A 1), .ref (A 2), .ref (A 3), .ref (A 4), .int (nI rk), .ref (A 5), .ref (A 6), .ref (A 7), .ref (A 8), .ref (A 9), .ref (A 10), .ref (A 11), .int ps, .ref (A 12), .ref (A 13)], ia E (A 1) 60 ln, ia E (A 2) 480 pl, ia E (A 3) 3600 u, za E (A 4) 60 zi, ia E (A 5) 60 rf, ia E (A 6) 60 rg, ia E (A 7) 81 co, ia E (A 8) 3 bs, za E (A 9) 60 zt, ia E (A 10) 3600 al, ia E (A 11) 60 pp, ia E (A 12) 60 pw, ia E (A 13) 60 ph]) := by
  refine CTi.ofZ (by decide) (Nat.le_of_ble_eq_true rfl) (fun X F R => ?_)
  refine g_lv [0, 1, 2, 3] [(0, .ref (A 0)), (1, .int x), (2, .int y), (3, .int z)] rfl ?_
  have hn60 := hK.1
  refine g_aload_n F 0 rfl dX11_tell_0 ?_
  refine g_iload_n F 1 rfl dX11_tell_1 ?_
  refine g_cVi F (wr := []) [] (c_X11_isThing E A ln pl td zi rf rg co bs zt al pp pw ph n kd rk ps L tN I x (hK) (hZ)) (gi_V tw_ml_X11_58 tw_im_X11_isThing tw_se_X11_isThing tw_in_X11 tw_co_X11_isThing) 1 rfl (by decide) ⟨rfl, rfl, by decide, by decide, Nat.zero_le _, Nat.zero_le _⟩ 11 0 rfl rfl [0, 1, 2, 3, 4, 5, 6, 7, 8, 9, 10, 11, 12, 13] [] [0, 1, 2, 3, 4, 5, 6, 7, 8, 9, 10, 11, 12, 13] (fun u => [ob (A 0) 11 [.int (nI n), .int (nI kd), .ref (A 1), .ref (A 2), .ref (A 3), .ref (A 4), .int (nI rk), .ref (A 5), .ref (A 6), .ref (A 7), .ref (A 8), .ref (A 9), .ref (A 10), .ref (A 11), .int ps, .ref (A 12), .ref (A 13)], ia E (A 1) 60 ln, ia E (A 2) 480 pl, ia E (A 3) 3600 td, za E (A 4) 60 zi, ia E (A 5) 60 rf, ia E (A 6) 60 rg, ia E (A 7) 81 co, ia E (A 8) 3 bs, za E (A 9) 60 zt, ia E (A 10) 3600 al, ia E (A 11) 60 pp, ia E (A 12) 60 pw, ia E (A 13) 60 ph]) rfl rfl (by decide) (fun _ => rfl) rfl (Nat.le_of_ble_eq_true rfl) dX11_tell_2 (fun r_2 u hu_2 => ?_)
  rcases hu_2 with ⟨rfl, p_2, hp_2, rfl⟩ | ⟨rfl, hno_2⟩
  · refine g_if_eq F 31 dX11_tell_5 (by decide) (fun h => absurd h (by decide)) (fun _ => ?_)
    refine g_aload_n F 0 rfl dX11_tell_8 ?_
    refine g_iload_n F 2 rfl dX11_tell_9 ?_
    refine g_cVi F (wr := []) [] (c_X11_isThing E A ln pl td zi rf rg co bs zt al pp pw ph n kd rk ps L tN I y (hK) (hZ)) (gi_V tw_ml_X11_58 tw_im_X11_isThing tw_se_X11_isThing tw_in_X11 tw_co_X11_isThing) 1 rfl (by decide) ⟨rfl, rfl, by decide, by decide, Nat.zero_le _, Nat.zero_le _⟩ 11 0 rfl rfl [0, 1, 2, 3, 4, 5, 6, 7, 8, 9, 10, 11, 12, 13] [] [0, 1, 2, 3, 4, 5, 6, 7, 8, 9, 10, 11, 12, 13] (fun u => [ob (A 0) 11 [.int (nI n), .int (nI kd), .ref (A 1), .ref (A 2), .ref (A 3), .ref (A 4), .int (nI rk), .ref (A 5), .ref (A 6), .ref (A 7), .ref (A 8), .ref (A 9), .ref (A 10), .ref (A 11), .int ps, .ref (A 12), .ref (A 13)], ia E (A 1) 60 ln, ia E (A 2) 480 pl, ia E (A 3) 3600 td, za E (A 4) 60 zi, ia E (A 5) 60 rf, ia E (A 6) 60 rg, ia E (A 7) 81 co, ia E (A 8) 3 bs, za E (A 9) 60 zt, ia E (A 10) 3600 al, ia E (A 11) 60 pp, ia E (A 12) 60 pw, ia E (A 13) 60 ph]) rfl rfl (by decide) (fun _ => rfl) rfl (Nat.le_of_ble_eq_true rfl) dX11_tell_10 (fun r_10 u hu_10 => ?_)
    rcases hu_10 with ⟨rfl, q_10, hq_10, rfl⟩ | ⟨rfl, hno_10⟩
    · refine g_if_eq F 31 dX11_tell_13 (by decide) (fun h => absurd h (by decide)) (fun _ => ?_)
      refine g_iload_n F 1 rfl dX11_tell_16 ?_
      refine g_iload_n F 2 rfl dX11_tell_17 ?_
      refine n_icmp_eq F 31 dX11_tell_18 (by decide) (by omega) (by omega) (fun c_18 => ?_) (fun c_18 => ?_)
      · refine g_iconst F (nI 0) (by decide) dX11_tell_31 ?_
        exact R _ td _ _ dX11_tell_32 (Or.inl rfl) (Or.inr ⟨fun p0 q0 e0 q => by
            have e1 := (nI_eq (by omega) (by have := q.1; omega)).mp q.2.2.1
            have e2 := (nI_eq (by omega) (by have := q.2.1; omega)).mp q.2.2.2.1
            have := q.2.2.2.2.1
            omega, rfl, rfl⟩)
      · refine g_iload_n F 3 rfl dX11_tell_21 ?_
        refine g_iconst F (nI 0) (by decide) dX11_tell_22 ?_
        refine g_ldc F tw_cn_X11_62 dX11_tell_23 ?_
        refine g_top (nI 100000) (by decide) ?_
        refine g_cSi F (wr := [ob (A 0) 11 [.int (nI n), .int (nI kd), .ref (A 1), .ref (A 2), .ref (A 3), .ref (A 4), .int (nI rk), .ref (A 5), .ref (A 6), .ref (A 7), .ref (A 8), .ref (A 9), .ref (A 10), .ref (A 11), .int ps, .ref (A 12), .ref (A 13)], ia E (A 1) 60 ln, ia E (A 2) 480 pl, ia E (A 3) 3600 td, za E (A 4) 60 zi, ia E (A 5) 60 rf, ia E (A 6) 60 rg, ia E (A 7) 81 co, ia E (A 8) 3 bs, za E (A 9) 60 zt, ia E (A 10) 3600 al, ia E (A 11) 60 pp, ia E (A 12) 60 pw, ia E (A 13) 60 ph]) [] (c_X11_lies E z (nI 0) (nI 100000) ) ⟨tw_ml_X11_54, tw_sm_X11_lies, tw_in_X11, tw_co_X11_lies⟩ 3 rfl (by decide) ⟨rfl, rfl, by decide, by decide, Nat.zero_le _, Nat.zero_le _⟩ [] [0, 1, 2, 3, 4, 5, 6, 7, 8, 9, 10, 11, 12, 13] [0, 1, 2, 3, 4, 5, 6, 7, 8, 9, 10, 11, 12, 13] (fun u => [ob (A 0) 11 [.int (nI n), .int (nI kd), .ref (A 1), .ref (A 2), .ref (A 3), .ref (A 4), .int (nI rk), .ref (A 5), .ref (A 6), .ref (A 7), .ref (A 8), .ref (A 9), .ref (A 10), .ref (A 11), .int ps, .ref (A 12), .ref (A 13)], ia E (A 1) 60 ln, ia E (A 2) 480 pl, ia E (A 3) 3600 td, za E (A 4) 60 zi, ia E (A 5) 60 rf, ia E (A 6) 60 rg, ia E (A 7) 81 co, ia E (A 8) 3 bs, za E (A 9) 60 zt, ia E (A 10) 3600 al, ia E (A 11) 60 pp, ia E (A 12) 60 pw, ia E (A 13) 60 ph]) rfl rfl (by decide) (fun _ => rfl) rfl (Nat.le_of_ble_eq_true rfl) dX11_tell_25 (fun r_25 u hu_25 => ?_)
        rcases hu_25 with ⟨rfl, l1_25, l2_25⟩ | ⟨rfl, l0_25⟩
        · refine g_if_ne F 33 dX11_tell_28 (by decide) (fun _ => ?_) (fun h => absurd h (by decide))
          obtain ⟨e0, he0, rfl⟩ := lie_r (hi := 100000) (by decide) l1_25 l2_25
          refine g_aload_n F 0 rfl dX11_tell_33 ?_
          refine g_get F 11 0 4 inX11 rfl rfl (by decide) tw_fl_X11_16 rfl dX11_tell_34 ?_
          refine g_bipush F (nI 60) (by decide) dX11_tell_37 ?_
          refine g_iload_n F 1 rfl dX11_tell_39 ?_
          refine n_mul F dX11_tell_40 ?_
          refine g_top (nI (p_2 * 60)) (by rw [Nat.mul_comm]) ?_
          refine g_iload_n F 2 rfl dX11_tell_41 ?_
          refine n_add F dX11_tell_42 ?_
          refine g_iload_n F 3 rfl dX11_tell_43 ?_
          refine g_iast F 3 [ob (A 0) 11 [.int (nI n), .int (nI kd), .ref (A 1), .ref (A 2), .ref (A 3), .ref (A 4), .int (nI rk), .ref (A 5), .ref (A 6), .ref (A 7), .ref (A 8), .ref (A 9), .ref (A 10), .ref (A 11), .int ps, .ref (A 12), .ref (A 13)], ia E (A 1) 60 ln, ia E (A 2) 480 pl, ia E (A 3) 3600 (upd td ((p_2 * 60) + q_10) (nI e0)), za E (A 4) 60 zi, ia E (A 5) 60 rf, ia E (A 6) 60 rg, ia E (A 7) 81 co, ia E (A 8) 3 bs, za E (A 9) 60 zt, ia E (A 10) 3600 al, ia E (A 11) 60 pp, ia E (A 12) 60 pw, ia E (A 13) 60 ph] rfl (by omega) (by decide) rfl dX11_tell_44 ?_
          refine g_aload_n F 0 rfl dX11_tell_45 ?_
          refine g_get F 11 0 4 inX11 rfl rfl (by decide) tw_fl_X11_16 rfl dX11_tell_46 ?_
          refine g_bipush F (nI 60) (by decide) dX11_tell_49 ?_
          refine g_iload_n F 2 rfl dX11_tell_51 ?_
          refine n_mul F dX11_tell_52 ?_
          refine g_top (nI (q_10 * 60)) (by rw [Nat.mul_comm]) ?_
          refine g_iload_n F 1 rfl dX11_tell_53 ?_
          refine n_add F dX11_tell_54 ?_
          refine g_iload_n F 3 rfl dX11_tell_55 ?_
          refine g_iast F 3 [ob (A 0) 11 [.int (nI n), .int (nI kd), .ref (A 1), .ref (A 2), .ref (A 3), .ref (A 4), .int (nI rk), .ref (A 5), .ref (A 6), .ref (A 7), .ref (A 8), .ref (A 9), .ref (A 10), .ref (A 11), .int ps, .ref (A 12), .ref (A 13)], ia E (A 1) 60 ln, ia E (A 2) 480 pl, ia E (A 3) 3600 (upd (upd td ((p_2 * 60) + q_10) (nI e0)) ((q_10 * 60) + p_2) (nI e0)), za E (A 4) 60 zi, ia E (A 5) 60 rf, ia E (A 6) 60 rg, ia E (A 7) 81 co, ia E (A 8) 3 bs, za E (A 9) 60 zt, ia E (A 10) 3600 al, ia E (A 11) 60 pp, ia E (A 12) 60 pw, ia E (A 13) 60 ph] rfl (by omega) (by decide) rfl dX11_tell_56 ?_
          refine g_iconst F (nI 1) (by decide) dX11_tell_57 ?_
          exact R _ (upd (upd td ((p_2 * 60) + q_10) (nI e0)) ((q_10 * 60) + p_2) (nI e0)) _ _ dX11_tell_58 (Or.inr rfl) (Or.inl ⟨p_2, q_10, e0, ⟨hp_2, hq_10, rfl, rfl, c_18, he0, rfl⟩, rfl, rfl⟩)
        · refine g_if_ne F 33 dX11_tell_28 (by decide) (fun h => absurd (by decide) h) (fun _ => ?_)
          refine g_iconst F (nI 0) (by decide) dX11_tell_31 ?_
          exact R _ td _ _ dX11_tell_32 (Or.inl rfl) (Or.inr ⟨fun p0 q0 e0 q => lie_n (hi := 100000) (by decide) l0_25 e0 q.2.2.2.2.2.1 q.2.2.2.2.2.2, rfl, rfl⟩)
    · refine g_if_eq F 31 dX11_tell_13 (by decide) (fun _ => ?_) (fun h => absurd (by decide) h)
      refine g_iconst F (nI 0) (by decide) dX11_tell_31 ?_
      exact R _ td _ _ dX11_tell_32 (Or.inl rfl) (Or.inr ⟨fun p0 q0 e0 q => hno_10 q0 q.2.1 q.2.2.2.1, rfl, rfl⟩)
  · refine g_if_eq F 31 dX11_tell_5 (by decide) (fun _ => ?_) (fun h => absurd (by decide) h)
    refine g_iconst F (nI 0) (by decide) dX11_tell_31 ?_
    exact R _ td _ _ dX11_tell_32 (Or.inl rfl) (Or.inr ⟨fun p0 q0 e0 q => hno_2 p0 q.1 q.2.2.1, rfl, rfl⟩)

set_option maxHeartbeats 4000000 in
set_option maxRecDepth 100000 in
theorem c_X11_kind (E : Ev) (A : Nat → Nat) (ln : Nat → Int32) (pl : Nat → Int32) (td : Nat → Int32) (zi : Nat → Int32) (rf : Nat → Int32) (rg : Nat → Int32) (co : Nat → Int32) (bs : Nat → Int32) (zt : Nat → Int32) (al : Nat → Int32) (pp : Nat → Int32) (pw : Nat → Int32) (ph : Nat → Int32) (n : Nat) (kd : Nat) (rk : Nat) (ps : Int32) (L : Nat → Nat) (tN : Nat → Nat) (I : Nat → Bool) (rt : Nat → Nat) (ra : Nat → Nat) (x : Int32) (hK : MDK n kd L ln pl tN td) (hZ : ZI n zi I) (hR : NBR rk rf rg rt ra) : CTi E yX11_kind (wq yX11_kind cX11_kind 2 (some .boolean)) (rmk 1 22) [.ref (A 0), .int x] [ob (A 0) 11 [.int (nI n), .int (nI kd), .ref (A 1), .ref (A 2), .ref (A 3), .ref (A 4), .int (nI rk), .ref (A 5), .ref (A 6), .ref (A 7), .ref (A 8), .ref (A 9), .ref (A 10), .ref (A 11), .int ps, .ref (A 12), .ref (A 13)], ia E (A 1) 60 ln, ia E (A 2) 480 pl, ia E (A 3) 3600 td, za E (A 4) 60 zi, ia E (A 5) 60 rf, ia E (A 6) 60 rg, ia E (A 7) 81 co, ia E (A 8) 3 bs, za E (A 9) 60 zt, ia E (A 10) 3600 al, ia E (A 11) 60 pp, ia E (A 12) 60 pw, ia E (A 13) 60 ph] (fun (r : Int32) (u : Nat) => (∃ k2, k2 ≤ 5 ∧ x = nI k2 ∧ r = 1 ∧ u = k2) ∨ ((∀ k2, k2 ≤ 5 → x ≠ nI k2) ∧ r = 0 ∧ u = kd)) (fun (u : Nat) => [ob (A 0) 11 [.int (nI n), .int (nI u), .ref (A 1), .ref (A 2), .ref (A 3), .ref (A 4), .int (nI rk), .ref (A 5), .ref (A 6), .ref (A 7), .ref (A 8), .ref (A 9), .ref (A 10), .ref (A 11), .int ps, .ref (A 12), .ref (A 13)], ia E (A 1) 60 ln, ia E (A 2) 480 pl, ia E (A 3) 3600 td, za E (A 4) 60 zi, ia E (A 5) 60 rf, ia E (A 6) 60 rg, ia E (A 7) 81 co, ia E (A 8) 3 bs, za E (A 9) 60 zt, ia E (A 10) 3600 al, ia E (A 11) 60 pp, ia E (A 12) 60 pw, ia E (A 13) 60 ph]) := by
  refine CTi.ofZ (by decide) (Nat.le_of_ble_eq_true rfl) (fun X F R => ?_)
  refine g_lv [0, 1] [(0, .ref (A 0)), (1, .int x)] rfl ?_
  have hn60 := hK.1
  refine g_iload_n F 1 rfl dX11_kind_0 ?_
  refine g_iconst F (nI 0) (by decide) dX11_kind_1 ?_
  refine g_iconst F (nI 5) (by decide) dX11_kind_2 ?_
  refine g_cSi F (wr := [ob (A 0) 11 [.int (nI n), .int (nI kd), .ref (A 1), .ref (A 2), .ref (A 3), .ref (A 4), .int (nI rk), .ref (A 5), .ref (A 6), .ref (A 7), .ref (A 8), .ref (A 9), .ref (A 10), .ref (A 11), .int ps, .ref (A 12), .ref (A 13)], ia E (A 1) 60 ln, ia E (A 2) 480 pl, ia E (A 3) 3600 td, za E (A 4) 60 zi, ia E (A 5) 60 rf, ia E (A 6) 60 rg, ia E (A 7) 81 co, ia E (A 8) 3 bs, za E (A 9) 60 zt, ia E (A 10) 3600 al, ia E (A 11) 60 pp, ia E (A 12) 60 pw, ia E (A 13) 60 ph]) [] (c_X11_lies E x (nI 0) (nI 5) ) ⟨tw_ml_X11_54, tw_sm_X11_lies, tw_in_X11, tw_co_X11_lies⟩ 3 rfl (by decide) ⟨rfl, rfl, by decide, by decide, Nat.zero_le _, Nat.zero_le _⟩ [] [0, 1, 2, 3, 4, 5, 6, 7, 8, 9, 10, 11, 12, 13] [0, 1, 2, 3, 4, 5, 6, 7, 8, 9, 10, 11, 12, 13] (fun u => [ob (A 0) 11 [.int (nI n), .int (nI kd), .ref (A 1), .ref (A 2), .ref (A 3), .ref (A 4), .int (nI rk), .ref (A 5), .ref (A 6), .ref (A 7), .ref (A 8), .ref (A 9), .ref (A 10), .ref (A 11), .int ps, .ref (A 12), .ref (A 13)], ia E (A 1) 60 ln, ia E (A 2) 480 pl, ia E (A 3) 3600 td, za E (A 4) 60 zi, ia E (A 5) 60 rf, ia E (A 6) 60 rg, ia E (A 7) 81 co, ia E (A 8) 3 bs, za E (A 9) 60 zt, ia E (A 10) 3600 al, ia E (A 11) 60 pp, ia E (A 12) 60 pw, ia E (A 13) 60 ph]) rfl rfl (by decide) (fun _ => rfl) rfl (Nat.le_of_ble_eq_true rfl) dX11_kind_3 (fun r_3 u hu_3 => ?_)
  rcases hu_3 with ⟨rfl, l1_3, l2_3⟩ | ⟨rfl, l0_3⟩
  · refine g_if_ne F 11 dX11_kind_6 (by decide) (fun _ => ?_) (fun h => absurd h (by decide))
    obtain ⟨k2, hk2, rfl⟩ := lie_r (hi := 5) (by decide) l1_3 l2_3
    refine g_aload_n F 0 rfl dX11_kind_11 ?_
    refine g_iload_n F 1 rfl dX11_kind_12 ?_
    refine g_put F 11 0 1 [ob (A 0) 11 [.int (nI n), .int (nI k2), .ref (A 1), .ref (A 2), .ref (A 3), .ref (A 4), .int (nI rk), .ref (A 5), .ref (A 6), .ref (A 7), .ref (A 8), .ref (A 9), .ref (A 10), .ref (A 11), .int ps, .ref (A 12), .ref (A 13)], ia E (A 1) 60 ln, ia E (A 2) 480 pl, ia E (A 3) 3600 td, za E (A 4) 60 zi, ia E (A 5) 60 rf, ia E (A 6) 60 rg, ia E (A 7) 81 co, ia E (A 8) 3 bs, za E (A 9) 60 zt, ia E (A 10) 3600 al, ia E (A 11) 60 pp, ia E (A 12) 60 pw, ia E (A 13) 60 ph] inX11 tyX11_ok nmX11 rfl rfl (by decide) tw_fl_X11_63 rfl rfl rfl rfl (Nat.le_of_ble_eq_true rfl) rfl dX11_kind_13 ?_
    refine g_iconst F (nI 1) (by decide) dX11_kind_16 ?_
    exact R _ k2 _ _ dX11_kind_17 (Or.inr rfl) (Or.inl ⟨k2, hk2, rfl, rfl, rfl⟩)
  · refine g_if_ne F 11 dX11_kind_6 (by decide) (fun h => absurd (by decide) h) (fun _ => ?_)
    refine g_iconst F (nI 0) (by decide) dX11_kind_9 ?_
    exact R _ kd _ _ dX11_kind_10 (Or.inl rfl) (Or.inr ⟨lie_n (by decide) l0_3, rfl, rfl⟩)

set_option maxHeartbeats 4000000 in
set_option maxRecDepth 100000 in
theorem c_X11_distance (E : Ev) (A : Nat → Nat) (ln : Nat → Int32) (pl : Nat → Int32) (td : Nat → Int32) (zi : Nat → Int32) (rf : Nat → Int32) (rg : Nat → Int32) (co : Nat → Int32) (bs : Nat → Int32) (zt : Nat → Int32) (al : Nat → Int32) (pp : Nat → Int32) (pw : Nat → Int32) (ph : Nat → Int32) (n : Nat) (kd : Nat) (rk : Nat) (ps : Int32) (L : Nat → Nat) (tN : Nat → Nat) (I : Nat → Bool) (rt : Nat → Nat) (ra : Nat → Nat) (x : Int32) (y : Int32) (hK : MDK n kd L ln pl tN td) (hZ : ZI n zi I) (hR : NBR rk rf rg rt ra) : CTi E yX11_distance (wq yX11_distance cX11_distance 3 (some .int)) (rmk 3 75) [.ref (A 0), .int x, .int y] [ob (A 0) 11 [.int (nI n), .int (nI kd), .ref (A 1), .ref (A 2), .ref (A 3), .ref (A 4), .int (nI rk), .ref (A 5), .ref (A 6), .ref (A 7), .ref (A 8), .ref (A 9), .ref (A 10), .ref (A 11), .int ps, .ref (A 12), .ref (A 13)], ia E (A 1) 60 ln, ia E (A 2) 480 pl, ia E (A 3) 3600 td, za E (A 4) 60 zi, ia E (A 5) 60 rf, ia E (A 6) 60 rg, ia E (A 7) 81 co, ia E (A 8) 3 bs, za E (A 9) 60 zt, ia E (A 10) 3600 al, ia E (A 11) 60 pp, ia E (A 12) 60 pw, ia E (A 13) 60 ph] (fun (r : Int32) (u : (Nat → Int32)) => (∃ p0 q0, p0 < n ∧ q0 < n ∧ x = nI p0 ∧ y = nI q0 ∧ r = nI (dsN kd L pl tN p0 q0)) ∨ ((∀ p0 q0, p0 < n → q0 < n → x = nI p0 → y ≠ nI q0) ∧ r = -1)) (fun (u : (Nat → Int32)) => [ob (A 0) 11 [.int (nI n), .int (nI kd), .ref (A 1), .ref (A 2), .ref (A 3), .ref (A 4), .int (nI rk), .ref (A 5), .ref (A 6), .ref (A 7), .ref (A 8), .ref (A 9), .ref (A 10), .ref (A 11), .int ps, .ref (A 12), .ref (A 13)], ia E (A 1) 60 ln, ia E (A 2) 480 pl, ia E (A 3) 3600 td, za E (A 4) 60 zi, ia E (A 5) 60 rf, ia E (A 6) 60 rg, ia E (A 7) 81 u, ia E (A 8) 3 bs, za E (A 9) 60 zt, ia E (A 10) 3600 al, ia E (A 11) 60 pp, ia E (A 12) 60 pw, ia E (A 13) 60 ph]) := by
  refine CTi.of (by decide) (Nat.le_of_ble_eq_true rfl) (fun X F R => ?_)
  refine g_lv [0, 1, 2] [(0, .ref (A 0)), (1, .int x), (2, .int y)] rfl ?_
  have hn60 := hK.1
  refine g_aload_n F 0 rfl dX11_distance_0 ?_
  refine g_iload_n F 1 rfl dX11_distance_1 ?_
  refine g_cVi F (wr := []) [] (c_X11_isThing E A ln pl td zi rf rg co bs zt al pp pw ph n kd rk ps L tN I x (hK) (hZ)) (gi_V tw_ml_X11_58 tw_im_X11_isThing tw_se_X11_isThing tw_in_X11 tw_co_X11_isThing) 1 rfl (by decide) ⟨rfl, rfl, by decide, by decide, Nat.zero_le _, Nat.zero_le _⟩ 11 0 rfl rfl [0, 1, 2, 3, 4, 5, 6, 7, 8, 9, 10, 11, 12, 13] [] [0, 1, 2, 3, 4, 5, 6, 7, 8, 9, 10, 11, 12, 13] (fun u => [ob (A 0) 11 [.int (nI n), .int (nI kd), .ref (A 1), .ref (A 2), .ref (A 3), .ref (A 4), .int (nI rk), .ref (A 5), .ref (A 6), .ref (A 7), .ref (A 8), .ref (A 9), .ref (A 10), .ref (A 11), .int ps, .ref (A 12), .ref (A 13)], ia E (A 1) 60 ln, ia E (A 2) 480 pl, ia E (A 3) 3600 td, za E (A 4) 60 zi, ia E (A 5) 60 rf, ia E (A 6) 60 rg, ia E (A 7) 81 co, ia E (A 8) 3 bs, za E (A 9) 60 zt, ia E (A 10) 3600 al, ia E (A 11) 60 pp, ia E (A 12) 60 pw, ia E (A 13) 60 ph]) rfl rfl (by decide) (fun _ => rfl) rfl (Nat.le_of_ble_eq_true rfl) dX11_distance_2 (fun r_2 u hu_2 => ?_)
  rcases hu_2 with ⟨rfl, p_2, hp_2, rfl⟩ | ⟨rfl, hno_2⟩
  · refine g_if_eq F 25 dX11_distance_5 (by decide) (fun h => absurd h (by decide)) (fun _ => ?_)
    refine g_aload_n F 0 rfl dX11_distance_8 ?_
    refine g_iload_n F 2 rfl dX11_distance_9 ?_
    refine g_cVi F (wr := []) [] (c_X11_isThing E A ln pl td zi rf rg co bs zt al pp pw ph n kd rk ps L tN I y (hK) (hZ)) (gi_V tw_ml_X11_58 tw_im_X11_isThing tw_se_X11_isThing tw_in_X11 tw_co_X11_isThing) 1 rfl (by decide) ⟨rfl, rfl, by decide, by decide, Nat.zero_le _, Nat.zero_le _⟩ 11 0 rfl rfl [0, 1, 2, 3, 4, 5, 6, 7, 8, 9, 10, 11, 12, 13] [] [0, 1, 2, 3, 4, 5, 6, 7, 8, 9, 10, 11, 12, 13] (fun u => [ob (A 0) 11 [.int (nI n), .int (nI kd), .ref (A 1), .ref (A 2), .ref (A 3), .ref (A 4), .int (nI rk), .ref (A 5), .ref (A 6), .ref (A 7), .ref (A 8), .ref (A 9), .ref (A 10), .ref (A 11), .int ps, .ref (A 12), .ref (A 13)], ia E (A 1) 60 ln, ia E (A 2) 480 pl, ia E (A 3) 3600 td, za E (A 4) 60 zi, ia E (A 5) 60 rf, ia E (A 6) 60 rg, ia E (A 7) 81 co, ia E (A 8) 3 bs, za E (A 9) 60 zt, ia E (A 10) 3600 al, ia E (A 11) 60 pp, ia E (A 12) 60 pw, ia E (A 13) 60 ph]) rfl rfl (by decide) (fun _ => rfl) rfl (Nat.le_of_ble_eq_true rfl) dX11_distance_10 (fun r_10 u hu_10 => ?_)
    rcases hu_10 with ⟨rfl, q_10, hq_10, rfl⟩ | ⟨rfl, hno_10⟩
    · refine g_if_eq F 25 dX11_distance_13 (by decide) (fun h => absurd h (by decide)) (fun _ => ?_)
      refine g_aload_n F 0 rfl dX11_distance_16 ?_
      refine g_iload_n F 1 rfl dX11_distance_17 ?_
      refine g_iload_n F 2 rfl dX11_distance_18 ?_
      refine g_cVi F (wr := []) [] (c_X11_far E A ln pl td zi rf rg co bs zt al pp pw ph n kd rk ps L tN I p_2 q_10 (hK) (hZ) (by omega) (by omega)) (gi_V tw_ml_X11_86 tw_im_X11_far tw_se_X11_far tw_in_X11 tw_co_X11_far) 2 rfl (by decide) ⟨rfl, rfl, by decide, by decide, Nat.zero_le _, Nat.zero_le _⟩ 11 0 rfl rfl [0, 1, 2, 3, 4, 5, 6, 7, 8, 9, 10, 11, 12, 13] [] [0, 1, 2, 3, 4, 5, 6, 7, 8, 9, 10, 11, 12, 13] (fun u => [ob (A 0) 11 [.int (nI n), .int (nI kd), .ref (A 1), .ref (A 2), .ref (A 3), .ref (A 4), .int (nI rk), .ref (A 5), .ref (A 6), .ref (A 7), .ref (A 8), .ref (A 9), .ref (A 10), .ref (A 11), .int ps, .ref (A 12), .ref (A 13)], ia E (A 1) 60 ln, ia E (A 2) 480 pl, ia E (A 3) 3600 td, za E (A 4) 60 zi, ia E (A 5) 60 rf, ia E (A 6) 60 rg, ia E (A 7) 81 u, ia E (A 8) 3 bs, za E (A 9) 60 zt, ia E (A 10) 3600 al, ia E (A 11) 60 pp, ia E (A 12) 60 pw, ia E (A 13) 60 ph]) rfl rfl (by decide) (fun _ => rfl) rfl (Nat.le_of_ble_eq_true rfl) dX11_distance_19 (fun r_19 u hu_19 => ?_)
      revert hu_19; revert u; intro co_19 hu_19
      subst hu_19
      refine g_goto F 26 dX11_distance_22 (by decide) ?_
      exact R _ co_19 _ _ dX11_distance_26 (Or.inl ⟨p_2, q_10, hp_2, hq_10, rfl, rfl, rfl⟩)
    · refine g_if_eq F 25 dX11_distance_13 (by decide) (fun _ => ?_) (fun h => absurd (by decide) h)
      refine g_iconst F (-1) (by decide) dX11_distance_25 ?_
      exact R _ co _ _ dX11_distance_26 (Or.inr ⟨fun p0 q0 h1 h2 h3 => hno_10 q0 h2, rfl⟩)
  · refine g_if_eq F 25 dX11_distance_5 (by decide) (fun _ => ?_) (fun h => absurd (by decide) h)
    refine g_iconst F (-1) (by decide) dX11_distance_25 ?_
    exact R _ co _ _ dX11_distance_26 (Or.inr ⟨fun p0 q0 h1 h2 h3 => absurd h3 (hno_2 p0 h1), rfl⟩)

set_option maxHeartbeats 4000000 in
set_option maxRecDepth 100000 in
theorem c_X11_law (E : Ev) (A : Nat → Nat) (ln : Nat → Int32) (pl : Nat → Int32) (td : Nat → Int32) (zi : Nat → Int32) (rf : Nat → Int32) (rg : Nat → Int32) (co : Nat → Int32) (bs : Nat → Int32) (zt : Nat → Int32) (al : Nat → Int32) (pp : Nat → Int32) (pw : Nat → Int32) (ph : Nat → Int32) (n : Nat) (kd : Nat) (rk : Nat) (ps : Int32) (L : Nat → Nat) (tN : Nat → Nat) (I : Nat → Bool) (rt : Nat → Nat) (ra : Nat → Nat) (hK : MDK n kd L ln pl tN td) (hZ : ZI n zi I) (hR : NBR rk rf rg rt ra) : CTi E yX11_law (wq yX11_law cX11_law 1 (some .int)) (rmk 1 23) [.ref (A 0)] [ob (A 0) 11 [.int (nI n), .int (nI kd), .ref (A 1), .ref (A 2), .ref (A 3), .ref (A 4), .int (nI rk), .ref (A 5), .ref (A 6), .ref (A 7), .ref (A 8), .ref (A 9), .ref (A 10), .ref (A 11), .int ps, .ref (A 12), .ref (A 13)], ia E (A 1) 60 ln, ia E (A 2) 480 pl, ia E (A 3) 3600 td, za E (A 4) 60 zi, ia E (A 5) 60 rf, ia E (A 6) 60 rg, ia E (A 7) 81 co, ia E (A 8) 3 bs, za E (A 9) 60 zt, ia E (A 10) 3600 al, ia E (A 11) 60 pp, ia E (A 12) 60 pw, ia E (A 13) 60 ph] (fun (r : Int32) (u : (Nat → Int32)) => (LWK kd tN n ∧ r = 1) ∨ (¬ LWK kd tN n ∧ r = 0)) (fun (u : (Nat → Int32)) => [ob (A 0) 11 [.int (nI n), .int (nI kd), .ref (A 1), .ref (A 2), .ref (A 3), .ref (A 4), .int (nI rk), .ref (A 5), .ref (A 6), .ref (A 7), .ref (A 8), .ref (A 9), .ref (A 10), .ref (A 11), .int ps, .ref (A 12), .ref (A 13)], ia E (A 1) 60 ln, ia E (A 2) 480 pl, ia E (A 3) 3600 td, za E (A 4) 60 zi, ia E (A 5) 60 rf, ia E (A 6) 60 rg, ia E (A 7) 81 co, ia E (A 8) 3 u, za E (A 9) 60 zt, ia E (A 10) 3600 al, ia E (A 11) 60 pp, ia E (A 12) 60 pw, ia E (A 13) 60 ph]) := by
  refine CTi.of (by decide) (Nat.le_of_ble_eq_true rfl) (fun X F R => ?_)
  refine g_lv [0] [(0, .ref (A 0))] rfl ?_
  refine g_aload_n F 0 rfl dX11_law_0 ?_
  refine g_cVi F (wr := []) [] (c_X11_holds E A ln pl td zi rf rg co bs zt al pp pw ph n kd rk ps L tN I (hK) (hZ)) (gi_V tw_ml_X11_89 tw_im_X11_holds tw_se_X11_holds tw_in_X11 tw_co_X11_holds) 0 rfl (by decide) ⟨rfl, rfl, by decide, by decide, Nat.zero_le _, Nat.zero_le _⟩ 11 0 rfl rfl [0, 1, 2, 3, 4, 5, 6, 7, 8, 9, 10, 11, 12, 13] [] [0, 1, 2, 3, 4, 5, 6, 7, 8, 9, 10, 11, 12, 13] (fun u => [ob (A 0) 11 [.int (nI n), .int (nI kd), .ref (A 1), .ref (A 2), .ref (A 3), .ref (A 4), .int (nI rk), .ref (A 5), .ref (A 6), .ref (A 7), .ref (A 8), .ref (A 9), .ref (A 10), .ref (A 11), .int ps, .ref (A 12), .ref (A 13)], ia E (A 1) 60 ln, ia E (A 2) 480 pl, ia E (A 3) 3600 td, za E (A 4) 60 zi, ia E (A 5) 60 rf, ia E (A 6) 60 rg, ia E (A 7) 81 co, ia E (A 8) 3 u, za E (A 9) 60 zt, ia E (A 10) 3600 al, ia E (A 11) 60 pp, ia E (A 12) 60 pw, ia E (A 13) 60 ph]) rfl rfl (by decide) (fun _ => rfl) rfl (Nat.le_of_ble_eq_true rfl) dX11_law_1 (fun r_1 u hu_1 => ?_)
  revert hu_1; revert u; intro bs2_1 hu_1
  rcases hu_1 with ⟨rfl, hlw⟩ | ⟨rfl, hk5, htb⟩
  · refine g_if_eq F 11 dX11_law_4 (by decide) (fun h => absurd h (by decide)) (fun _ => ?_)
    refine g_iconst F (nI 1) (by decide) dX11_law_7 ?_
    refine g_goto F 12 dX11_law_8 (by decide) ?_
    exact R _ bs2_1 _ _ dX11_law_12 (Or.inl ⟨hlw, rfl⟩)
  · refine g_if_eq F 11 dX11_law_4 (by decide) (fun _ => ?_) (fun h => absurd (by decide) h)
    refine g_iconst F (nI 0) (by decide) dX11_law_11 ?_
    exact R _ bs2_1 _ _ dX11_law_12 (Or.inr ⟨lwk_no hk5 htb, rfl⟩)

set_option maxHeartbeats 4000000 in
set_option maxRecDepth 100000 in
theorem c_X11_three (E : Ev) (A : Nat → Nat) (ln : Nat → Int32) (pl : Nat → Int32) (td : Nat → Int32) (zi : Nat → Int32) (rf : Nat → Int32) (rg : Nat → Int32) (co : Nat → Int32) (bs : Nat → Int32) (zt : Nat → Int32) (al : Nat → Int32) (pp : Nat → Int32) (pw : Nat → Int32) (ph : Nat → Int32) (n : Nat) (kd : Nat) (rk : Nat) (ps : Int32) (L : Nat → Nat) (tN : Nat → Nat) (I : Nat → Bool) (rt : Nat → Nat) (ra : Nat → Nat) (x : Int32) (hK : MDK n kd L ln pl tN td) (hZ : ZI n zi I) (hR : NBR rk rf rg rt ra) : CTi E yX11_three (wq yX11_three cX11_three 2 (some .int)) (rmk 1 23) [.ref (A 0), .int x] [ob (A 0) 11 [.int (nI n), .int (nI kd), .ref (A 1), .ref (A 2), .ref (A 3), .ref (A 4), .int (nI rk), .ref (A 5), .ref (A 6), .ref (A 7), .ref (A 8), .ref (A 9), .ref (A 10), .ref (A 11), .int ps, .ref (A 12), .ref (A 13)], ia E (A 1) 60 ln, ia E (A 2) 480 pl, ia E (A 3) 3600 td, za E (A 4) 60 zi, ia E (A 5) 60 rf, ia E (A 6) 60 rg, ia E (A 7) 81 co, ia E (A 8) 3 bs, za E (A 9) 60 zt, ia E (A 10) 3600 al, ia E (A 11) 60 pp, ia E (A 12) 60 pw, ia E (A 13) 60 ph] (fun (r : Int32) (u : (Nat → Int32)) => (∃ i0, i0 ≤ 2 ∧ x = nI i0 ∧ ¬ LWK kd tN n ∧ ∃ a0 b0 c0, BR tN n a0 b0 c0 ∧ r = nI (if i0 = 0 then a0 else if i0 = 1 then b0 else c0)) ∨ (((∀ i0, i0 ≤ 2 → x ≠ nI i0) ∨ LWK kd tN n) ∧ r = -1)) (fun (u : (Nat → Int32)) => [ob (A 0) 11 [.int (nI n), .int (nI kd), .ref (A 1), .ref (A 2), .ref (A 3), .ref (A 4), .int (nI rk), .ref (A 5), .ref (A 6), .ref (A 7), .ref (A 8), .ref (A 9), .ref (A 10), .ref (A 11), .int ps, .ref (A 12), .ref (A 13)], ia E (A 1) 60 ln, ia E (A 2) 480 pl, ia E (A 3) 3600 td, za E (A 4) 60 zi, ia E (A 5) 60 rf, ia E (A 6) 60 rg, ia E (A 7) 81 co, ia E (A 8) 3 u, za E (A 9) 60 zt, ia E (A 10) 3600 al, ia E (A 11) 60 pp, ia E (A 12) 60 pw, ia E (A 13) 60 ph]) := by
  refine CTi.of (by decide) (Nat.le_of_ble_eq_true rfl) (fun X F R => ?_)
  refine g_lv [0, 1] [(0, .ref (A 0)), (1, .int x)] rfl ?_
  refine g_aload_n F 0 rfl dX11_three_0 ?_
  refine g_cVi F (wr := []) [] (c_X11_holds E A ln pl td zi rf rg co bs zt al pp pw ph n kd rk ps L tN I (hK) (hZ)) (gi_V tw_ml_X11_89 tw_im_X11_holds tw_se_X11_holds tw_in_X11 tw_co_X11_holds) 0 rfl (by decide) ⟨rfl, rfl, by decide, by decide, Nat.zero_le _, Nat.zero_le _⟩ 11 0 rfl rfl [0, 1, 2, 3, 4, 5, 6, 7, 8, 9, 10, 11, 12, 13] [] [0, 1, 2, 3, 4, 5, 6, 7, 8, 9, 10, 11, 12, 13] (fun u => [ob (A 0) 11 [.int (nI n), .int (nI kd), .ref (A 1), .ref (A 2), .ref (A 3), .ref (A 4), .int (nI rk), .ref (A 5), .ref (A 6), .ref (A 7), .ref (A 8), .ref (A 9), .ref (A 10), .ref (A 11), .int ps, .ref (A 12), .ref (A 13)], ia E (A 1) 60 ln, ia E (A 2) 480 pl, ia E (A 3) 3600 td, za E (A 4) 60 zi, ia E (A 5) 60 rf, ia E (A 6) 60 rg, ia E (A 7) 81 co, ia E (A 8) 3 u, za E (A 9) 60 zt, ia E (A 10) 3600 al, ia E (A 11) 60 pp, ia E (A 12) 60 pw, ia E (A 13) 60 ph]) rfl rfl (by decide) (fun _ => rfl) rfl (Nat.le_of_ble_eq_true rfl) dX11_three_1 (fun r_1 u hu_1 => ?_)
  revert hu_1; revert u; intro bs2_1 hu_1
  rcases hu_1 with ⟨rfl, hlw⟩ | ⟨rfl, hk5, htb⟩
  · refine g_if_ne F 16 dX11_three_4 (by decide) (fun _ => ?_) (fun h => absurd h (by decide))
    refine g_iconst F (-1) (by decide) dX11_three_16 ?_
    refine g_goto F 26 dX11_three_17 (by decide) ?_
    exact R _ bs2_1 _ _ dX11_three_26 (Or.inr ⟨Or.inr hlw, rfl⟩)
  · refine g_if_ne F 16 dX11_three_4 (by decide) (fun h => absurd (by decide) h) (fun _ => ?_)
    refine g_iload_n F 1 rfl dX11_three_7 ?_
    refine g_iconst F (nI 0) (by decide) dX11_three_8 ?_
    refine g_iconst F (nI 2) (by decide) dX11_three_9 ?_
    refine g_cSi F (wr := [ob (A 0) 11 [.int (nI n), .int (nI kd), .ref (A 1), .ref (A 2), .ref (A 3), .ref (A 4), .int (nI rk), .ref (A 5), .ref (A 6), .ref (A 7), .ref (A 8), .ref (A 9), .ref (A 10), .ref (A 11), .int ps, .ref (A 12), .ref (A 13)], ia E (A 1) 60 ln, ia E (A 2) 480 pl, ia E (A 3) 3600 td, za E (A 4) 60 zi, ia E (A 5) 60 rf, ia E (A 6) 60 rg, ia E (A 7) 81 co, ia E (A 8) 3 bs2_1, za E (A 9) 60 zt, ia E (A 10) 3600 al, ia E (A 11) 60 pp, ia E (A 12) 60 pw, ia E (A 13) 60 ph]) [] (c_X11_lies E x (nI 0) (nI 2) ) ⟨tw_ml_X11_54, tw_sm_X11_lies, tw_in_X11, tw_co_X11_lies⟩ 3 rfl (by decide) ⟨rfl, rfl, by decide, by decide, Nat.zero_le _, Nat.zero_le _⟩ [] [0, 1, 2, 3, 4, 5, 6, 7, 8, 9, 10, 11, 12, 13] [0, 1, 2, 3, 4, 5, 6, 7, 8, 9, 10, 11, 12, 13] (fun u => [ob (A 0) 11 [.int (nI n), .int (nI kd), .ref (A 1), .ref (A 2), .ref (A 3), .ref (A 4), .int (nI rk), .ref (A 5), .ref (A 6), .ref (A 7), .ref (A 8), .ref (A 9), .ref (A 10), .ref (A 11), .int ps, .ref (A 12), .ref (A 13)], ia E (A 1) 60 ln, ia E (A 2) 480 pl, ia E (A 3) 3600 td, za E (A 4) 60 zi, ia E (A 5) 60 rf, ia E (A 6) 60 rg, ia E (A 7) 81 co, ia E (A 8) 3 bs2_1, za E (A 9) 60 zt, ia E (A 10) 3600 al, ia E (A 11) 60 pp, ia E (A 12) 60 pw, ia E (A 13) 60 ph]) rfl rfl (by decide) (fun _ => rfl) rfl (Nat.le_of_ble_eq_true rfl) dX11_three_10 (fun r_10 u hu_10 => ?_)
    rcases hu_10 with ⟨rfl, l1_10, l2_10⟩ | ⟨rfl, l0_10⟩
    · refine g_if_ne F 20 dX11_three_13 (by decide) (fun _ => ?_) (fun h => absurd h (by decide))
      obtain ⟨i0, hi0, rfl⟩ := lie_r (hi := 2) (by decide) l1_10 l2_10
      have htb2 := htb
      obtain ⟨a0, b0, c0, hbr, e0, e1, e2⟩ := htb2
      refine g_aload_n F 0 rfl dX11_three_20 ?_
      refine g_get F 11 0 10 inX11 rfl rfl (by decide) tw_fl_X11_32 rfl dX11_three_21 ?_
      refine g_iload_n F 1 rfl dX11_three_24 ?_
      refine g_iald F 8 rfl (by omega) (by decide) dX11_three_25 ?_
      exact R _ bs2_1 _ _ dX11_three_26 (Or.inl ⟨i0, hi0, rfl, lwk_no hk5 htb, a0, b0, c0, hbr, by
          rcases w_cases hi0 with rfl | rfl | rfl
          · exact e0
          · exact e1
          · exact e2⟩)
    · refine g_if_ne F 20 dX11_three_13 (by decide) (fun h => absurd (by decide) h) (fun _ => ?_)
      refine g_iconst F (-1) (by decide) dX11_three_16 ?_
      refine g_goto F 26 dX11_three_17 (by decide) ?_
      exact R _ bs2_1 _ _ dX11_three_26 (Or.inr ⟨Or.inl (lie_n (by decide) l0_10), rfl⟩)

theorem zi_set {n t0 : Nat} {zi : Nat → Int32} {I : Nat → Bool} (h : ZI n zi I) (ht : t0 < n) : ZI n (upd zi t0 (nI 1)) (setB I t0) := by
  refine ⟨fun t h60 => ?_, fun t hI => ?_⟩
  · unfold upd setB
    split
    · rfl
    · exact h.1 t h60
  · unfold setB at hI
    by_cases c : t = t0
    · rw [c]; exact ht
    · rw [if_neg c] at hI; exact h.2 t hI
theorem zi_clr {n t0 : Nat} {zi : Nat → Int32} {I : Nat → Bool} (h : ZI n zi I) : ZI n (upd zi t0 (nI 0)) (clrB I t0) := by
  refine ⟨fun t h60 => ?_, fun t hI => ?_⟩
  · unfold upd clrB
    split
    · rfl
    · exact h.1 t h60
  · unfold clrB at hI
    by_cases c : t = t0
    · rw [if_pos c] at hI; simp at hI
    · rw [if_neg c] at hI; exact h.2 t hI

set_option maxHeartbeats 4000000 in
set_option maxRecDepth 100000 in
theorem c_X11_put (E : Ev) (A : Nat → Nat) (ln : Nat → Int32) (pl : Nat → Int32) (td : Nat → Int32) (zi : Nat → Int32) (rf : Nat → Int32) (rg : Nat → Int32) (co : Nat → Int32) (bs : Nat → Int32) (zt : Nat → Int32) (al : Nat → Int32) (pp : Nat → Int32) (pw : Nat → Int32) (ph : Nat → Int32) (n : Nat) (kd : Nat) (rk : Nat) (ps : Int32) (L : Nat → Nat) (tN : Nat → Nat) (I : Nat → Bool) (rt : Nat → Nat) (ra : Nat → Nat) (x : Int32) (hK : MDK n kd L ln pl tN td) (hZ : ZI n zi I) (hR : NBR rk rf rg rt ra) : CTi E yX11_put (wq yX11_put cX11_put 2 (some .boolean)) (rmk 2 43) [.ref (A 0), .int x] [ob (A 0) 11 [.int (nI n), .int (nI kd), .ref (A 1), .ref (A 2), .ref (A 3), .ref (A 4), .int (nI rk), .ref (A 5), .ref (A 6), .ref (A 7), .ref (A 8), .ref (A 9), .ref (A 10), .ref (A 11), .int ps, .ref (A 12), .ref (A 13)], ia E (A 1) 60 ln, ia E (A 2) 480 pl, ia E (A 3) 3600 td, za E (A 4) 60 zi, ia E (A 5) 60 rf, ia E (A 6) 60 rg, ia E (A 7) 81 co, ia E (A 8) 3 bs, za E (A 9) 60 zt, ia E (A 10) 3600 al, ia E (A 11) 60 pp, ia E (A 12) 60 pw, ia E (A 13) 60 ph] (fun (r : Int32) (u : (Nat → Int32)) => (∃ t0, t0 < n ∧ x = nI t0 ∧ I t0 = false ∧ r = 1 ∧ ZI n u (setB I t0)) ∨ ((∀ t0, t0 < n → x = nI t0 → I t0 = true) ∧ r = 0 ∧ ZI n u I)) (fun (u : (Nat → Int32)) => [ob (A 0) 11 [.int (nI n), .int (nI kd), .ref (A 1), .ref (A 2), .ref (A 3), .ref (A 4), .int (nI rk), .ref (A 5), .ref (A 6), .ref (A 7), .ref (A 8), .ref (A 9), .ref (A 10), .ref (A 11), .int ps, .ref (A 12), .ref (A 13)], ia E (A 1) 60 ln, ia E (A 2) 480 pl, ia E (A 3) 3600 td, za E (A 4) 60 u, ia E (A 5) 60 rf, ia E (A 6) 60 rg, ia E (A 7) 81 co, ia E (A 8) 3 bs, za E (A 9) 60 zt, ia E (A 10) 3600 al, ia E (A 11) 60 pp, ia E (A 12) 60 pw, ia E (A 13) 60 ph]) := by
  refine CTi.ofZ (by decide) (Nat.le_of_ble_eq_true rfl) (fun X F R => ?_)
  refine g_lv [0, 1] [(0, .ref (A 0)), (1, .int x)] rfl ?_
  have hn60 := hK.1
  refine g_aload_n F 0 rfl dX11_put_0 ?_
  refine g_iload_n F 1 rfl dX11_put_1 ?_
  refine g_cVi F (wr := []) [] (c_X11_isThing E A ln pl td zi rf rg co bs zt al pp pw ph n kd rk ps L tN I x (hK) (hZ)) (gi_V tw_ml_X11_58 tw_im_X11_isThing tw_se_X11_isThing tw_in_X11 tw_co_X11_isThing) 1 rfl (by decide) ⟨rfl, rfl, by decide, by decide, Nat.zero_le _, Nat.zero_le _⟩ 11 0 rfl rfl [0, 1, 2, 3, 4, 5, 6, 7, 8, 9, 10, 11, 12, 13] [] [0, 1, 2, 3, 4, 5, 6, 7, 8, 9, 10, 11, 12, 13] (fun u => [ob (A 0) 11 [.int (nI n), .int (nI kd), .ref (A 1), .ref (A 2), .ref (A 3), .ref (A 4), .int (nI rk), .ref (A 5), .ref (A 6), .ref (A 7), .ref (A 8), .ref (A 9), .ref (A 10), .ref (A 11), .int ps, .ref (A 12), .ref (A 13)], ia E (A 1) 60 ln, ia E (A 2) 480 pl, ia E (A 3) 3600 td, za E (A 4) 60 zi, ia E (A 5) 60 rf, ia E (A 6) 60 rg, ia E (A 7) 81 co, ia E (A 8) 3 bs, za E (A 9) 60 zt, ia E (A 10) 3600 al, ia E (A 11) 60 pp, ia E (A 12) 60 pw, ia E (A 13) 60 ph]) rfl rfl (by decide) (fun _ => rfl) rfl (Nat.le_of_ble_eq_true rfl) dX11_put_2 (fun r_2 u hu_2 => ?_)
  rcases hu_2 with ⟨rfl, t_2, ht_2, rfl⟩ | ⟨rfl, hno_2⟩
  · refine g_if_eq F 17 dX11_put_5 (by decide) (fun h => absurd h (by decide)) (fun _ => ?_)
    refine g_aload_n F 0 rfl dX11_put_8 ?_
    refine g_get F 11 0 5 inX11 rfl rfl (by decide) tw_fl_X11_19 rfl dX11_put_9 ?_
    refine g_iload_n F 1 rfl dX11_put_12 ?_
    refine g_zald F 4 rfl (by omega) (by decide) dX11_put_13 ?_
    refine g_top (bI (I t_2)) (hZ.1 t_2 (by omega)) ?_
    refine b_if_eq F 19 dX11_put_14 (by decide) (fun c_14 => ?_) (fun c_14 => ?_)
    · refine g_aload_n F 0 rfl dX11_put_19 ?_
      refine g_get F 11 0 5 inX11 rfl rfl (by decide) tw_fl_X11_19 rfl dX11_put_20 ?_
      refine g_iload_n F 1 rfl dX11_put_23 ?_
      refine g_iconst F (nI 1) (by decide) dX11_put_24 ?_
      refine g_zast F 4 [ob (A 0) 11 [.int (nI n), .int (nI kd), .ref (A 1), .ref (A 2), .ref (A 3), .ref (A 4), .int (nI rk), .ref (A 5), .ref (A 6), .ref (A 7), .ref (A 8), .ref (A 9), .ref (A 10), .ref (A 11), .int ps, .ref (A 12), .ref (A 13)], ia E (A 1) 60 ln, ia E (A 2) 480 pl, ia E (A 3) 3600 td, za E (A 4) 60 (upd zi t_2 (nI 1)), ia E (A 5) 60 rf, ia E (A 6) 60 rg, ia E (A 7) 81 co, ia E (A 8) 3 bs, za E (A 9) 60 zt, ia E (A 10) 3600 al, ia E (A 11) 60 pp, ia E (A 12) 60 pw, ia E (A 13) 60 ph] rfl (by omega) (by decide) (Or.inr rfl) rfl dX11_put_25 ?_
      refine g_iconst F (nI 1) (by decide) dX11_put_26 ?_
      exact R _ (upd zi t_2 (nI 1)) _ _ dX11_put_27 (Or.inr rfl) (Or.inl ⟨t_2, ht_2, rfl, c_14, rfl, zi_set hZ ht_2⟩)
    · refine g_iconst F (nI 0) (by decide) dX11_put_17 ?_
      exact R _ zi _ _ dX11_put_18 (Or.inl rfl) (Or.inr ⟨fun t0 h1 h2 => by
          rw [← (nI_eq (by omega) (by omega)).mp h2]
          exact c_14, rfl, hZ⟩)
  · refine g_if_eq F 17 dX11_put_5 (by decide) (fun _ => ?_) (fun h => absurd (by decide) h)
    refine g_iconst F (nI 0) (by decide) dX11_put_17 ?_
    exact R _ zi _ _ dX11_put_18 (Or.inl rfl) (Or.inr ⟨fun t0 h1 h2 => absurd h2 (hno_2 t0 h1), rfl, hZ⟩)

set_option maxHeartbeats 4000000 in
set_option maxRecDepth 100000 in
theorem c_X11_drop (E : Ev) (A : Nat → Nat) (ln : Nat → Int32) (pl : Nat → Int32) (td : Nat → Int32) (zi : Nat → Int32) (rf : Nat → Int32) (rg : Nat → Int32) (co : Nat → Int32) (bs : Nat → Int32) (zt : Nat → Int32) (al : Nat → Int32) (pp : Nat → Int32) (pw : Nat → Int32) (ph : Nat → Int32) (n : Nat) (kd : Nat) (rk : Nat) (ps : Int32) (L : Nat → Nat) (tN : Nat → Nat) (I : Nat → Bool) (rt : Nat → Nat) (ra : Nat → Nat) (x : Int32) (hK : MDK n kd L ln pl tN td) (hZ : ZI n zi I) (hR : NBR rk rf rg rt ra) : CTi E yX11_drop (wq yX11_drop cX11_drop 2 (some .boolean)) (rmk 2 43) [.ref (A 0), .int x] [ob (A 0) 11 [.int (nI n), .int (nI kd), .ref (A 1), .ref (A 2), .ref (A 3), .ref (A 4), .int (nI rk), .ref (A 5), .ref (A 6), .ref (A 7), .ref (A 8), .ref (A 9), .ref (A 10), .ref (A 11), .int ps, .ref (A 12), .ref (A 13)], ia E (A 1) 60 ln, ia E (A 2) 480 pl, ia E (A 3) 3600 td, za E (A 4) 60 zi, ia E (A 5) 60 rf, ia E (A 6) 60 rg, ia E (A 7) 81 co, ia E (A 8) 3 bs, za E (A 9) 60 zt, ia E (A 10) 3600 al, ia E (A 11) 60 pp, ia E (A 12) 60 pw, ia E (A 13) 60 ph] (fun (r : Int32) (u : (Nat → Int32)) => (∃ t0, t0 < n ∧ x = nI t0 ∧ I t0 = true ∧ r = 1 ∧ ZI n u (clrB I t0)) ∨ ((∀ t0, t0 < n → x = nI t0 → I t0 = false) ∧ r = 0 ∧ ZI n u I)) (fun (u : (Nat → Int32)) => [ob (A 0) 11 [.int (nI n), .int (nI kd), .ref (A 1), .ref (A 2), .ref (A 3), .ref (A 4), .int (nI rk), .ref (A 5), .ref (A 6), .ref (A 7), .ref (A 8), .ref (A 9), .ref (A 10), .ref (A 11), .int ps, .ref (A 12), .ref (A 13)], ia E (A 1) 60 ln, ia E (A 2) 480 pl, ia E (A 3) 3600 td, za E (A 4) 60 u, ia E (A 5) 60 rf, ia E (A 6) 60 rg, ia E (A 7) 81 co, ia E (A 8) 3 bs, za E (A 9) 60 zt, ia E (A 10) 3600 al, ia E (A 11) 60 pp, ia E (A 12) 60 pw, ia E (A 13) 60 ph]) := by
  refine CTi.ofZ (by decide) (Nat.le_of_ble_eq_true rfl) (fun X F R => ?_)
  refine g_lv [0, 1] [(0, .ref (A 0)), (1, .int x)] rfl ?_
  have hn60 := hK.1
  refine g_aload_n F 0 rfl dX11_drop_0 ?_
  refine g_iload_n F 1 rfl dX11_drop_1 ?_
  refine g_cVi F (wr := []) [] (c_X11_isThing E A ln pl td zi rf rg co bs zt al pp pw ph n kd rk ps L tN I x (hK) (hZ)) (gi_V tw_ml_X11_58 tw_im_X11_isThing tw_se_X11_isThing tw_in_X11 tw_co_X11_isThing) 1 rfl (by decide) ⟨rfl, rfl, by decide, by decide, Nat.zero_le _, Nat.zero_le _⟩ 11 0 rfl rfl [0, 1, 2, 3, 4, 5, 6, 7, 8, 9, 10, 11, 12, 13] [] [0, 1, 2, 3, 4, 5, 6, 7, 8, 9, 10, 11, 12, 13] (fun u => [ob (A 0) 11 [.int (nI n), .int (nI kd), .ref (A 1), .ref (A 2), .ref (A 3), .ref (A 4), .int (nI rk), .ref (A 5), .ref (A 6), .ref (A 7), .ref (A 8), .ref (A 9), .ref (A 10), .ref (A 11), .int ps, .ref (A 12), .ref (A 13)], ia E (A 1) 60 ln, ia E (A 2) 480 pl, ia E (A 3) 3600 td, za E (A 4) 60 zi, ia E (A 5) 60 rf, ia E (A 6) 60 rg, ia E (A 7) 81 co, ia E (A 8) 3 bs, za E (A 9) 60 zt, ia E (A 10) 3600 al, ia E (A 11) 60 pp, ia E (A 12) 60 pw, ia E (A 13) 60 ph]) rfl rfl (by decide) (fun _ => rfl) rfl (Nat.le_of_ble_eq_true rfl) dX11_drop_2 (fun r_2 u hu_2 => ?_)
  rcases hu_2 with ⟨rfl, t_2, ht_2, rfl⟩ | ⟨rfl, hno_2⟩
  · refine g_if_eq F 17 dX11_drop_5 (by decide) (fun h => absurd h (by decide)) (fun _ => ?_)
    refine g_aload_n F 0 rfl dX11_drop_8 ?_
    refine g_get F 11 0 5 inX11 rfl rfl (by decide) tw_fl_X11_19 rfl dX11_drop_9 ?_
    refine g_iload_n F 1 rfl dX11_drop_12 ?_
    refine g_zald F 4 rfl (by omega) (by decide) dX11_drop_13 ?_
    refine g_top (bI (I t_2)) (hZ.1 t_2 (by omega)) ?_
    refine b_if_ne F 19 dX11_drop_14 (by decide) (fun c_14 => ?_) (fun c_14 => ?_)
    · refine g_aload_n F 0 rfl dX11_drop_19 ?_
      refine g_get F 11 0 5 inX11 rfl rfl (by decide) tw_fl_X11_19 rfl dX11_drop_20 ?_
      refine g_iload_n F 1 rfl dX11_drop_23 ?_
      refine g_iconst F (nI 0) (by decide) dX11_drop_24 ?_
      refine g_zast F 4 [ob (A 0) 11 [.int (nI n), .int (nI kd), .ref (A 1), .ref (A 2), .ref (A 3), .ref (A 4), .int (nI rk), .ref (A 5), .ref (A 6), .ref (A 7), .ref (A 8), .ref (A 9), .ref (A 10), .ref (A 11), .int ps, .ref (A 12), .ref (A 13)], ia E (A 1) 60 ln, ia E (A 2) 480 pl, ia E (A 3) 3600 td, za E (A 4) 60 (upd zi t_2 (nI 0)), ia E (A 5) 60 rf, ia E (A 6) 60 rg, ia E (A 7) 81 co, ia E (A 8) 3 bs, za E (A 9) 60 zt, ia E (A 10) 3600 al, ia E (A 11) 60 pp, ia E (A 12) 60 pw, ia E (A 13) 60 ph] rfl (by omega) (by decide) (Or.inl rfl) rfl dX11_drop_25 ?_
      refine g_iconst F (nI 1) (by decide) dX11_drop_26 ?_
      exact R _ (upd zi t_2 (nI 0)) _ _ dX11_drop_27 (Or.inr rfl) (Or.inl ⟨t_2, ht_2, rfl, c_14, rfl, zi_clr hZ⟩)
    · refine g_iconst F (nI 0) (by decide) dX11_drop_17 ?_
      exact R _ zi _ _ dX11_drop_18 (Or.inl rfl) (Or.inr ⟨fun t0 h1 h2 => by
          rw [← (nI_eq (by omega) (by omega)).mp h2]
          exact c_14, rfl, hZ⟩)
  · refine g_if_eq F 17 dX11_drop_5 (by decide) (fun _ => ?_) (fun h => absurd (by decide) h)
    refine g_iconst F (nI 0) (by decide) dX11_drop_17 ?_
    exact R _ zi _ _ dX11_drop_18 (Or.inl rfl) (Or.inr ⟨fun t0 h1 h2 => absurd h2 (hno_2 t0 h1), rfl, hZ⟩)

set_option maxHeartbeats 4000000 in
set_option maxRecDepth 100000 in
theorem c_X11_has_ (E : Ev) (A : Nat → Nat) (ln : Nat → Int32) (pl : Nat → Int32) (td : Nat → Int32) (zi : Nat → Int32) (rf : Nat → Int32) (rg : Nat → Int32) (co : Nat → Int32) (bs : Nat → Int32) (zt : Nat → Int32) (al : Nat → Int32) (pp : Nat → Int32) (pw : Nat → Int32) (ph : Nat → Int32) (n : Nat) (kd : Nat) (rk : Nat) (ps : Int32) (L : Nat → Nat) (tN : Nat → Nat) (I : Nat → Bool) (rt : Nat → Nat) (ra : Nat → Nat) (x : Int32) (hK : MDK n kd L ln pl tN td) (hZ : ZI n zi I) (hR : NBR rk rf rg rt ra) : CTi E yX11_has_ (wq yX11_has_ cX11_has_ 2 (some .int)) (rmk 2 43) [.ref (A 0), .int x] [ob (A 0) 11 [.int (nI n), .int (nI kd), .ref (A 1), .ref (A 2), .ref (A 3), .ref (A 4), .int (nI rk), .ref (A 5), .ref (A 6), .ref (A 7), .ref (A 8), .ref (A 9), .ref (A 10), .ref (A 11), .int ps, .ref (A 12), .ref (A 13)], ia E (A 1) 60 ln, ia E (A 2) 480 pl, ia E (A 3) 3600 td, za E (A 4) 60 zi, ia E (A 5) 60 rf, ia E (A 6) 60 rg, ia E (A 7) 81 co, ia E (A 8) 3 bs, za E (A 9) 60 zt, ia E (A 10) 3600 al, ia E (A 11) 60 pp, ia E (A 12) 60 pw, ia E (A 13) 60 ph] (fun (r : Int32) (u : Unit) => (∃ t0, t0 < n ∧ x = nI t0 ∧ r = if I t0 = true then 1 else 0) ∨ ((∀ t0, t0 < n → x ≠ nI t0) ∧ r = -1)) (fun (u : Unit) => [ob (A 0) 11 [.int (nI n), .int (nI kd), .ref (A 1), .ref (A 2), .ref (A 3), .ref (A 4), .int (nI rk), .ref (A 5), .ref (A 6), .ref (A 7), .ref (A 8), .ref (A 9), .ref (A 10), .ref (A 11), .int ps, .ref (A 12), .ref (A 13)], ia E (A 1) 60 ln, ia E (A 2) 480 pl, ia E (A 3) 3600 td, za E (A 4) 60 zi, ia E (A 5) 60 rf, ia E (A 6) 60 rg, ia E (A 7) 81 co, ia E (A 8) 3 bs, za E (A 9) 60 zt, ia E (A 10) 3600 al, ia E (A 11) 60 pp, ia E (A 12) 60 pw, ia E (A 13) 60 ph]) := by
  refine CTi.of (by decide) (Nat.le_of_ble_eq_true rfl) (fun X F R => ?_)
  refine g_lv [0, 1] [(0, .ref (A 0)), (1, .int x)] rfl ?_
  have hn60 := hK.1
  refine g_aload_n F 0 rfl dX11_has__0 ?_
  refine g_iload_n F 1 rfl dX11_has__1 ?_
  refine g_cVi F (wr := []) [] (c_X11_isThing E A ln pl td zi rf rg co bs zt al pp pw ph n kd rk ps L tN I x (hK) (hZ)) (gi_V tw_ml_X11_58 tw_im_X11_isThing tw_se_X11_isThing tw_in_X11 tw_co_X11_isThing) 1 rfl (by decide) ⟨rfl, rfl, by decide, by decide, Nat.zero_le _, Nat.zero_le _⟩ 11 0 rfl rfl [0, 1, 2, 3, 4, 5, 6, 7, 8, 9, 10, 11, 12, 13] [] [0, 1, 2, 3, 4, 5, 6, 7, 8, 9, 10, 11, 12, 13] (fun u => [ob (A 0) 11 [.int (nI n), .int (nI kd), .ref (A 1), .ref (A 2), .ref (A 3), .ref (A 4), .int (nI rk), .ref (A 5), .ref (A 6), .ref (A 7), .ref (A 8), .ref (A 9), .ref (A 10), .ref (A 11), .int ps, .ref (A 12), .ref (A 13)], ia E (A 1) 60 ln, ia E (A 2) 480 pl, ia E (A 3) 3600 td, za E (A 4) 60 zi, ia E (A 5) 60 rf, ia E (A 6) 60 rg, ia E (A 7) 81 co, ia E (A 8) 3 bs, za E (A 9) 60 zt, ia E (A 10) 3600 al, ia E (A 11) 60 pp, ia E (A 12) 60 pw, ia E (A 13) 60 ph]) rfl rfl (by decide) (fun _ => rfl) rfl (Nat.le_of_ble_eq_true rfl) dX11_has__2 (fun r_2 u hu_2 => ?_)
  rcases hu_2 with ⟨rfl, t_2, ht_2, rfl⟩ | ⟨rfl, hno_2⟩
  · refine g_if_ne F 12 dX11_has__5 (by decide) (fun _ => ?_) (fun h => absurd h (by decide))
    refine g_aload_n F 0 rfl dX11_has__12 ?_
    refine g_get F 11 0 5 inX11 rfl rfl (by decide) tw_fl_X11_19 rfl dX11_has__13 ?_
    refine g_iload_n F 1 rfl dX11_has__16 ?_
    refine g_zald F 4 rfl (by omega) (by decide) dX11_has__17 ?_
    refine g_top (bI (I t_2)) (hZ.1 t_2 (by omega)) ?_
    refine b_if_eq F 25 dX11_has__18 (by decide) (fun c_18 => ?_) (fun c_18 => ?_)
    · refine g_iconst F (nI 0) (by decide) dX11_has__25 ?_
      exact R _ (()) _ _ dX11_has__26 (Or.inl ⟨t_2, ht_2, rfl, by rw [c_18]; rfl⟩)
    · refine g_iconst F (nI 1) (by decide) dX11_has__21 ?_
      refine g_goto F 26 dX11_has__22 (by decide) ?_
      exact R _ (()) _ _ dX11_has__26 (Or.inl ⟨t_2, ht_2, rfl, by rw [if_pos c_18]; rfl⟩)
  · refine g_if_ne F 12 dX11_has__5 (by decide) (fun h => absurd (by decide) h) (fun _ => ?_)
    refine g_iconst F (-1) (by decide) dX11_has__8 ?_
    refine g_goto F 26 dX11_has__9 (by decide) ?_
    exact R _ (()) _ _ dX11_has__26 (Or.inr ⟨hno_2, rfl⟩)

set_option maxHeartbeats 4000000 in
set_option maxRecDepth 100000 in
theorem c_X11_result (E : Ev) (A : Nat → Nat) (ln : Nat → Int32) (pl : Nat → Int32) (td : Nat → Int32) (zi : Nat → Int32) (rf : Nat → Int32) (rg : Nat → Int32) (co : Nat → Int32) (bs : Nat → Int32) (zt : Nat → Int32) (al : Nat → Int32) (pp : Nat → Int32) (pw : Nat → Int32) (ph : Nat → Int32) (n : Nat) (kd : Nat) (rk : Nat) (ps : Int32) (L : Nat → Nat) (tN : Nat → Nat) (I : Nat → Bool) (rt : Nat → Nat) (ra : Nat → Nat) (x : Int32) (y : Int32) (hK : MDK n kd L ln pl tN td) (hZ : ZI n zi I) (hR : NBR rk rf rg rt ra) : CTi E yX11_result (wq yX11_result cX11_result 3 (some .int)) (rmk 1 22) [.ref (A 0), .int x, .int y] [ob (A 0) 11 [.int (nI n), .int (nI kd), .ref (A 1), .ref (A 2), .ref (A 3), .ref (A 4), .int (nI rk), .ref (A 5), .ref (A 6), .ref (A 7), .ref (A 8), .ref (A 9), .ref (A 10), .ref (A 11), .int ps, .ref (A 12), .ref (A 13)], ia E (A 1) 60 ln, ia E (A 2) 480 pl, ia E (A 3) 3600 td, za E (A 4) 60 zi, ia E (A 5) 60 rf, ia E (A 6) 60 rg, ia E (A 7) 81 co, ia E (A 8) 3 bs, za E (A 9) 60 zt, ia E (A 10) 3600 al, ia E (A 11) 60 pp, ia E (A 12) 60 pw, ia E (A 13) 60 ph] (fun (r : Int32) (u : Unit) => (∃ j0, j0 < rk ∧ x = nI j0 ∧ r = if y = 0 then nI (rt j0) else if y = 1 then nI (ra j0) else -1) ∨ ((∀ j0, j0 < rk → x ≠ nI j0) ∧ r = -1)) (fun (u : Unit) => [ob (A 0) 11 [.int (nI n), .int (nI kd), .ref (A 1), .ref (A 2), .ref (A 3), .ref (A 4), .int (nI rk), .ref (A 5), .ref (A 6), .ref (A 7), .ref (A 8), .ref (A 9), .ref (A 10), .ref (A 11), .int ps, .ref (A 12), .ref (A 13)], ia E (A 1) 60 ln, ia E (A 2) 480 pl, ia E (A 3) 3600 td, za E (A 4) 60 zi, ia E (A 5) 60 rf, ia E (A 6) 60 rg, ia E (A 7) 81 co, ia E (A 8) 3 bs, za E (A 9) 60 zt, ia E (A 10) 3600 al, ia E (A 11) 60 pp, ia E (A 12) 60 pw, ia E (A 13) 60 ph]) := by
  refine CTi.of (by decide) (Nat.le_of_ble_eq_true rfl) (fun X F R => ?_)
  refine g_lv [0, 1, 2] [(0, .ref (A 0)), (1, .int x), (2, .int y)] rfl ?_
  have hn60 := hK.1
  have hr60 := hR.1
  refine g_iload_n F 1 rfl dX11_result_0 ?_
  refine g_iconst F (nI 0) (by decide) dX11_result_1 ?_
  refine g_aload_n F 0 rfl dX11_result_2 ?_
  refine g_get F 11 0 6 inX11 rfl rfl (by decide) tw_fl_X11_93 rfl dX11_result_3 ?_
  refine g_iconst F (nI 1) (by decide) dX11_result_6 ?_
  refine g_isub F dX11_result_7 ?_
  refine g_cSi F (wr := [ob (A 0) 11 [.int (nI n), .int (nI kd), .ref (A 1), .ref (A 2), .ref (A 3), .ref (A 4), .int (nI rk), .ref (A 5), .ref (A 6), .ref (A 7), .ref (A 8), .ref (A 9), .ref (A 10), .ref (A 11), .int ps, .ref (A 12), .ref (A 13)], ia E (A 1) 60 ln, ia E (A 2) 480 pl, ia E (A 3) 3600 td, za E (A 4) 60 zi, ia E (A 5) 60 rf, ia E (A 6) 60 rg, ia E (A 7) 81 co, ia E (A 8) 3 bs, za E (A 9) 60 zt, ia E (A 10) 3600 al, ia E (A 11) 60 pp, ia E (A 12) 60 pw, ia E (A 13) 60 ph]) [] (c_X11_lies E x (nI 0) ((nI rk) - (nI 1)) ) ⟨tw_ml_X11_54, tw_sm_X11_lies, tw_in_X11, tw_co_X11_lies⟩ 3 rfl (by decide) ⟨rfl, rfl, by decide, by decide, Nat.zero_le _, Nat.zero_le _⟩ [] [0, 1, 2, 3, 4, 5, 6, 7, 8, 9, 10, 11, 12, 13] [0, 1, 2, 3, 4, 5, 6, 7, 8, 9, 10, 11, 12, 13] (fun u => [ob (A 0) 11 [.int (nI n), .int (nI kd), .ref (A 1), .ref (A 2), .ref (A 3), .ref (A 4), .int (nI rk), .ref (A 5), .ref (A 6), .ref (A 7), .ref (A 8), .ref (A 9), .ref (A 10), .ref (A 11), .int ps, .ref (A 12), .ref (A 13)], ia E (A 1) 60 ln, ia E (A 2) 480 pl, ia E (A 3) 3600 td, za E (A 4) 60 zi, ia E (A 5) 60 rf, ia E (A 6) 60 rg, ia E (A 7) 81 co, ia E (A 8) 3 bs, za E (A 9) 60 zt, ia E (A 10) 3600 al, ia E (A 11) 60 pp, ia E (A 12) 60 pw, ia E (A 13) 60 ph]) rfl rfl (by decide) (fun _ => rfl) rfl (Nat.le_of_ble_eq_true rfl) dX11_result_8 (fun r_8 u hu_8 => ?_)
  rcases hu_8 with ⟨rfl, l1_8, l2_8⟩ | ⟨rfl, l0_8⟩
  · refine g_if_ne F 18 dX11_result_11 (by decide) (fun _ => ?_) (fun h => absurd h (by decide))
    obtain ⟨j0, hj0, rfl⟩ := (nsub1 hr60).mp ⟨l1_8, l2_8⟩
    refine g_iload_n F 2 rfl dX11_result_18 ?_
    refine g_if_ne F 31 dX11_result_19 (by decide) (fun c_19 => ?_) (fun c_19 => ?_)
    · refine g_iload_n F 2 rfl dX11_result_31 ?_
      refine g_iconst F (nI 1) (by decide) dX11_result_32 ?_
      refine g_icmp_ne F 45 dX11_result_33 (by decide) (fun c_33 => ?_) (fun c_33 => ?_)
      · refine g_iconst F (-1) (by decide) dX11_result_45 ?_
        exact R _ (()) _ _ dX11_result_46 (Or.inl ⟨j0, hj0, rfl, by rw [if_neg c_19, if_neg (show ¬ y = 1 from c_33)]⟩)
      · refine g_aload_n F 0 rfl dX11_result_36 ?_
        refine g_get F 11 0 8 inX11 rfl rfl (by decide) tw_fl_X11_26 rfl dX11_result_37 ?_
        refine g_iload_n F 1 rfl dX11_result_40 ?_
        refine g_iald F 6 rfl (by omega) (by decide) dX11_result_41 ?_
        refine g_goto F 46 dX11_result_42 (by decide) ?_
        exact R _ (()) _ _ dX11_result_46 (Or.inl ⟨j0, hj0, rfl, by rw [if_neg c_19, if_pos (show y = 1 from c_33)]; exact (hR.2 j0 hj0).2⟩)
    · refine g_aload_n F 0 rfl dX11_result_22 ?_
      refine g_get F 11 0 7 inX11 rfl rfl (by decide) tw_fl_X11_23 rfl dX11_result_23 ?_
      refine g_iload_n F 1 rfl dX11_result_26 ?_
      refine g_iald F 5 rfl (by omega) (by decide) dX11_result_27 ?_
      refine g_goto F 46 dX11_result_28 (by decide) ?_
      exact R _ (()) _ _ dX11_result_46 (Or.inl ⟨j0, hj0, rfl, by rw [if_pos c_19]; exact (hR.2 j0 hj0).1⟩)
  · refine g_if_ne F 18 dX11_result_11 (by decide) (fun h => absurd (by decide) h) (fun _ => ?_)
    refine g_iconst F (-1) (by decide) dX11_result_14 ?_
    refine g_goto F 46 dX11_result_15 (by decide) ?_
    exact R _ (()) _ _ dX11_result_46 (Or.inr ⟨nsub1n hr60 l0_8, rfl⟩)
