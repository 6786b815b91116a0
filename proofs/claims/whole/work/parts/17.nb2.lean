theorem g_lookup {E : Ev} {X : Cx} {cc : ByteArray} {own : String} {rm : Room} {nL0 k n pc : Nat} {ws : va_W} {lv : List (Nat × Value)} {st : List Value} (F : FX E X cc own rm nL0) {x : Int32} {dflt : Int} {ps : Array (Int × Int)} {len : Nat} (tgt : Nat) (off : Int) (hdg : decode cc pc = .ok (.lookupswitch dflt ps, len)) (hp : (ps.toList.zip (ps.toList.drop 1)).all (fun (a, next) => a.1 < next.1) = true) (ho : Op.lookupswitch.offset ps.toList dflt x.toInt = off) (ht : (pc : Int) + off = (tgt : Int)) (kk : GW E X k n ws lv tgt st) : GW E X k n ws lv pc (.int x :: st) := by
  obtain ⟨l, D, cI, cZ⟩ := E
  obtain ⟨p, e, R, s, m, args, below, meth, c, Q, A, nL⟩ := X
  obtain ⟨hx, hb, hml, hown, hts, hK, hA, hR, hnL, hlk⟩ := F
  subst hR
  subst hnL
  intro H locs ls hP hD hS hl
  exact lv_lookup hx hb hdg hp ho ht (kk H locs ls hP hD hS hl)
/-- a part of a pair's key -/
def pop (key w : Nat) : Nat := if w = 0 then key / 60 % 60 else if w = 1 then key % 60 else key / 3600
theorem pop_pk {dd : Nat → Nat → Nat} {x y w : Nat} (hx : x < y) (hy : y < 60) : pop (pkN dd x y) w = if w = 0 then x else if w = 1 then y else dd x y := by
  have e1 : Nat.min x y = x := Nat.min_eq_left (by omega)
  have e2 : Nat.max x y = y := Nat.max_eq_right (by omega)
  obtain ⟨d1, d2, d3⟩ := nk_div (d := dd x y) (a := x) (b := y) (by omega) hy
  unfold pop pkN
  rw [e1, e2, d1, d2, d3]
theorem w_cases {w : Nat} (h : w ≤ 2) : w = 0 ∨ w = 1 ∨ w = 2 := by omega
def sumK (ka : Nat → Nat) : Nat → Nat
  | 0 => 0
  | i + 1 => sumK ka i + ka i / 3600
theorem sub10 {x : Int32} {t : Nat} : x - nI 10 = nI t ↔ x = nI (t + 10) := by
  constructor
  · intro h
    have e : x = (x - nI 10) + nI 10 := by rw [Int32.sub_add_cancel]
    rw [e, h, nI_add]
  · intro h
    rw [h, ← nI_add, Int32.add_sub_cancel]

set_option maxHeartbeats 4000000 in
set_option maxRecDepth 100000 in
theorem c_X10_partOfPair (E : Ev) (key : Nat) (w : Nat) (hk : key < 2 ^ 31) (hw : w ≤ 2) : RDi E yX10_partOfPair (wq yX10_partOfPair cX10_partOfPair 2 (some .int)) (rmk 0 0) [.int (nI key), .int (nI w)] [] (nI (pop key w)) := by
  refine CTi.of (by decide) (Nat.le_of_ble_eq_true rfl) (fun X F R => ?_)
  refine g_lv [0, 1] [(0, .int (nI key)), (1, .int (nI w))] rfl ?_
  rcases w_cases hw with rfl | rfl | rfl
  · refine g_iload_n F 1 rfl dX10_partOfPair_0 ?_
    refine g_lookup F 28 (27) dX10_partOfPair_1 (by decide) (by decide) (by decide) ?_
    refine g_iload_n F 0 rfl dX10_partOfPair_28 ?_
    refine g_bipush F (nI 60) (by decide) dX10_partOfPair_29 ?_
    refine n_div F (by omega) (by decide) (by decide) dX10_partOfPair_31 ?_
    refine g_bipush F (nI 60) (by decide) dX10_partOfPair_32 ?_
    refine n_rem F (by omega) (by decide) (by decide) dX10_partOfPair_34 ?_
    exact R _ (()) _ _ dX10_partOfPair_35 (rfl)
  · refine g_iload_n F 1 rfl dX10_partOfPair_0 ?_
    refine g_lookup F 36 (35) dX10_partOfPair_1 (by decide) (by decide) (by decide) ?_
    refine g_iload_n F 0 rfl dX10_partOfPair_36 ?_
    refine g_bipush F (nI 60) (by decide) dX10_partOfPair_37 ?_
    refine n_rem F (by omega) (by decide) (by decide) dX10_partOfPair_39 ?_
    exact R _ (()) _ _ dX10_partOfPair_40 (rfl)
  · refine g_iload_n F 1 rfl dX10_partOfPair_0 ?_
    refine g_lookup F 41 (40) dX10_partOfPair_1 (by decide) (by decide) (by decide) ?_
    refine g_iload_n F 0 rfl dX10_partOfPair_41 ?_
    refine g_sipush F (nI 3600) (by decide) dX10_partOfPair_42 ?_
    refine n_div F (by omega) (by decide) (by decide) dX10_partOfPair_45 ?_
    exact R _ (()) _ _ dX10_partOfPair_46 (rfl)

set_option maxHeartbeats 4000000 in
set_option maxRecDepth 100000 in
theorem c_X10_sumOfPairs (E : Ev) (m : Nat) (q : Nat) (f : Nat → Int32) (c : Nat) (ka : Nat → Nat) (hs : SQ 360003600 f c ka) : CTl E yX10_sumOfPairs (wq yX10_sumOfPairs cX10_sumOfPairs 4 (some .long)) (rmk 1 21) [.ref m] [ob m 4 [.ref q, .int (nI c)], ia E q 60 f] (fun (r : Int64) (u : Unit) => r = lN (sumK ka c)) (fun (u : Unit) => [ob m 4 [.ref q, .int (nI c)], ia E q 60 f]) := by
  refine CTl.of (by decide) (Nat.le_of_ble_eq_true rfl) (fun X F R => ?_)
  refine g_lv [0] [(0, .ref m)] rfl ?_
  have hk := hs.1
  refine g_lconst F (lN 0) rfl dX10_sumOfPairs_0 ?_
  refine g_lstore_n F 1 [(0, .ref m), (1, .long (lN 0))] [1, 0] dX10_sumOfPairs_1 rfl (by decide) rfl ?_
  refine g_iconst F (nI 0) (by decide) dX10_sumOfPairs_2 ?_
  refine g_istore_n F 3 [(0, .ref m), (1, .long (lN 0)), (3, .int (nI 0))] [1, 2, 0] dX10_sumOfPairs_3 rfl (by decide) rfl ?_
  have lp_4 : ∀ (n_4 : Nat) (i : Nat), (i ≤ c) → c - i < n_4 → GW E X 0 0 [ob m 4 [.ref q, .int (nI c)], ia E q 60 f] [(0, .ref m), (1, .long (lN (sumK ka i))), (3, .int (nI i))] 4 [] := by
    intro n_4
    induction n_4 with
    | zero => intro i hi hm_4; exact absurd hm_4 (Nat.not_lt_zero _)
    | succ n_4 ih_4 =>
      intro i hi hm_4
      refine g_iload_n F 2 rfl dX10_sumOfPairs_4 ?_
      refine g_aload_n F 0 rfl dX10_sumOfPairs_5 ?_
      refine g_rVi F (wr := []) [.int (nI i)] (c_X4_size E m q f c ) (gi_V tw_ml_X10_180 tw_im_X4_size tw_se_X4_size tw_in_X4 tw_co_X4_size) 0 rfl (by decide) ⟨rfl, rfl, by decide, by decide, Nat.zero_le _, Nat.zero_le _⟩ 4 0 rfl rfl [0, 1] [] [0, 1] rfl rfl (by decide) rfl rfl (Nat.le_of_ble_eq_true rfl) dX10_sumOfPairs_6 ?_
      refine n_icmp_ge F 31 dX10_sumOfPairs_9 (by decide) (by omega) (by omega) (fun c_9 => ?_) (fun c_9 => ?_)
      · refine g_lload_n F 1 rfl dX10_sumOfPairs_31 ?_
        exact R _ (()) _ _ dX10_sumOfPairs_32 (by rw [show i = c by omega])
      · refine g_lload_n F 1 rfl dX10_sumOfPairs_12 ?_
        refine g_aload_n F 0 rfl dX10_sumOfPairs_13 ?_
        refine g_iload_n F 2 rfl dX10_sumOfPairs_14 ?_
        refine g_rVi F (wr := []) [.long (lN (sumK ka i))] (c_X4_at E m q f c ka i (fun i hi => (hs.2.1 i hi).1) (by omega) (by omega)) (gi_V tw_ml_X10_185 tw_im_X4_at tw_se_X4_at tw_in_X4 tw_co_X4_at) 1 rfl (by decide) ⟨rfl, rfl, by decide, by decide, Nat.zero_le _, Nat.zero_le _⟩ 4 0 rfl rfl [0, 1] [] [0, 1] rfl rfl (by decide) rfl rfl (Nat.le_of_ble_eq_true rfl) dX10_sumOfPairs_15 ?_
        refine g_iconst F (nI 2) (by decide) dX10_sumOfPairs_18 ?_
        refine g_rSi F (wr := [ob m 4 [.ref q, .int (nI c)], ia E q 60 f]) [.long (lN (sumK ka i))] (c_X10_partOfPair E (ka i) 2 (by have := (hs.2.1 i (by omega)).2; omega) (by decide)) ⟨tw_ml_X10_161, tw_sm_X10_partOfPair, tw_in_X10, tw_co_X10_partOfPair⟩ 2 rfl (by decide) ⟨rfl, rfl, by decide, by decide, Nat.zero_le _, Nat.zero_le _⟩ [] [0, 1] [0, 1] rfl rfl (by decide) rfl rfl (Nat.le_of_ble_eq_true rfl) dX10_sumOfPairs_19 ?_
        refine g_i2l F (lN (pop (ka i) 2)) (nI_l (by have := (hs.2.1 i (by omega)).2; show pop (ka i) 2 < _; unfold pop; simp; omega)) dX10_sumOfPairs_22 ?_
        refine g_ladd F dX10_sumOfPairs_23 ?_
        refine g_topl (lN (sumK ka (i + 1))) (lN_add _ _) ?_
        refine g_lstore_n F 1 [(0, .ref m), (1, .long (lN (sumK ka (i + 1)))), (3, .int (nI i))] [1, 0, 2] dX10_sumOfPairs_24 rfl (by decide) rfl ?_
        refine g_iinc F (nI (i + 1)) 3 2 [(0, .ref m), (1, .long (lN (sumK ka (i + 1)))), (3, .int (nI (i + 1)))] [1, 2, 0] dX10_sumOfPairs_25 rfl (n_inc i) (by decide) rfl ?_
        refine g_goto F 4 dX10_sumOfPairs_28 (by decide) ?_
        exact ih_4 (i + 1) (by omega) (by omega)
  exact lp_4 _ 0 (by omega) (Nat.lt_succ_self _)

set_option maxHeartbeats 4000000 in
set_option maxRecDepth 100000 in
theorem c_X10_lengthAsked (E : Ev) (A : Nat → Nat) (ln : Nat → Int32) (pl : Nat → Int32) (li : Nat → Int32) (n : Nat) (L : Nat → Nat) (x : Int32) (hn : n ≤ 60) (hL : LR ln L) : CTi E yX10_lengthAsked (wq yX10_lengthAsked cX10_lengthAsked 2 (some .int)) (rmk 1 21) [.ref (A 0), .int x] [ob (A 0) 10 [.ref (A 1), .ref (A 5), .ref (A 8), .ref (A 10), .ref (A 12), .ref (A 15), .ref (A 17), .ref (A 21), .ref (A 23), .ref (A 25)], ob (A 1) 8 [.ref (A 2), .ref (A 3), .ref (A 4), .int (nI n)], ia E (A 2) 60 ln, ia E (A 3) 480 pl, ia E (A 4) 9 li] (fun (r : Int32) (u : Unit) => (∃ t, t < n ∧ x = nI (t + 10) ∧ r = nI (L t)) ∨ ((∀ t, t < n → x ≠ nI (t + 10)) ∧ r = -1)) (fun (u : Unit) => [ob (A 0) 10 [.ref (A 1), .ref (A 5), .ref (A 8), .ref (A 10), .ref (A 12), .ref (A 15), .ref (A 17), .ref (A 21), .ref (A 23), .ref (A 25)], ob (A 1) 8 [.ref (A 2), .ref (A 3), .ref (A 4), .int (nI n)], ia E (A 2) 60 ln, ia E (A 3) 480 pl, ia E (A 4) 9 li]) := by
  refine CTi.of (by decide) (Nat.le_of_ble_eq_true rfl) (fun X F R => ?_)
  refine g_lv [0, 1] [(0, .ref (A 0)), (1, .int x)] rfl ?_
  refine g_iload_n F 1 rfl dX10_lengthAsked_0 ?_
  refine g_bipush F (nI 10) (by decide) dX10_lengthAsked_1 ?_
  refine g_icmp_lt F 20 dX10_lengthAsked_3 (by decide) (fun c_3 => ?_) (fun c_3 => ?_)
  · refine g_iconst F (-1) (by decide) dX10_lengthAsked_20 ?_
    exact R _ (()) _ _ dX10_lengthAsked_21 (Or.inr ⟨fun t ht z => nI_nlt (a := t + 10) (b := 10) (by omega) (by omega) (by rw [← z]; exact c_3), rfl⟩)
  · refine g_aload_n F 0 rfl dX10_lengthAsked_6 ?_
    refine g_get F 10 0 0 inX10 rfl rfl (by decide) tw_fl_X10_10 rfl dX10_lengthAsked_7 ?_
    refine g_iload_n F 1 rfl dX10_lengthAsked_10 ?_
    refine g_bipush F (nI 10) (by decide) dX10_lengthAsked_11 ?_
    refine g_isub F dX10_lengthAsked_13 ?_
    refine g_cVi F (wr := [ob (A 0) 10 [.ref (A 1), .ref (A 5), .ref (A 8), .ref (A 10), .ref (A 12), .ref (A 15), .ref (A 17), .ref (A 21), .ref (A 23), .ref (A 25)]]) [] (c_X8_holds E (A 1) (A 2) (A 3) (A 4) ln pl li n (x - (nI 10)) (hn)) (gi_V tw_ml_X10_91 tw_im_X8_holds tw_se_X8_holds tw_in_X8 tw_co_X8_holds) 1 rfl (by decide) ⟨rfl, rfl, by decide, by decide, Nat.zero_le _, Nat.zero_le _⟩ 8 0 rfl rfl [1, 2, 3, 4] [0] [0, 1, 2, 3, 4] (fun u => [ob (A 0) 10 [.ref (A 1), .ref (A 5), .ref (A 8), .ref (A 10), .ref (A 12), .ref (A 15), .ref (A 17), .ref (A 21), .ref (A 23), .ref (A 25)], ob (A 1) 8 [.ref (A 2), .ref (A 3), .ref (A 4), .int (nI n)], ia E (A 2) 60 ln, ia E (A 3) 480 pl, ia E (A 4) 9 li]) rfl rfl (by decide) (fun _ => rfl) rfl (Nat.le_of_ble_eq_true rfl) dX10_lengthAsked_14 (fun r_14 u hu_14 => ?_)
    rcases hu_14 with ⟨rfl, t9, ht9, e9⟩ | ⟨rfl, h9⟩
    · refine g_if_ne F 22 dX10_lengthAsked_17 (by decide) (fun _ => ?_) (fun h => absurd h (by decide))
      refine g_aload_n F 0 rfl dX10_lengthAsked_22 ?_
      refine g_get F 10 0 0 inX10 rfl rfl (by decide) tw_fl_X10_10 rfl dX10_lengthAsked_23 ?_
      refine g_iload_n F 1 rfl dX10_lengthAsked_26 ?_
      refine g_bipush F (nI 10) (by decide) dX10_lengthAsked_27 ?_
      refine g_isub F dX10_lengthAsked_29 ?_
      refine g_top (nI t9) (e9) ?_
      refine g_rVi F (wr := [ob (A 0) 10 [.ref (A 1), .ref (A 5), .ref (A 8), .ref (A 10), .ref (A 12), .ref (A 15), .ref (A 17), .ref (A 21), .ref (A 23), .ref (A 25)]]) [] (c_X8_lengthOf E (A 1) (A 2) (A 3) (A 4) ln pl li n L t9 (hL) (by omega)) (gi_V tw_ml_X10_95 tw_im_X8_lengthOf tw_se_X8_lengthOf tw_in_X8 tw_co_X8_lengthOf) 1 rfl (by decide) ⟨rfl, rfl, by decide, by decide, Nat.zero_le _, Nat.zero_le _⟩ 8 0 rfl rfl [1, 2, 3, 4] [0] [0, 1, 2, 3, 4] rfl rfl (by decide) rfl rfl (Nat.le_of_ble_eq_true rfl) dX10_lengthAsked_30 ?_
      exact R _ (()) _ _ dX10_lengthAsked_33 (Or.inl ⟨t9, ht9, sub10.mp e9, rfl⟩)
    · refine g_if_ne F 22 dX10_lengthAsked_17 (by decide) (fun h => absurd (by decide) h) (fun _ => ?_)
      refine g_iconst F (-1) (by decide) dX10_lengthAsked_20 ?_
      exact R _ (()) _ _ dX10_lengthAsked_21 (Or.inr ⟨fun t ht z => h9 t ht (sub10.mpr z), rfl⟩)

set_option maxHeartbeats 4000000 in
set_option maxRecDepth 100000 in
theorem c_X10_openBook (E : Ev) (A : Nat → Nat) (ln : Nat → Int32) (pl : Nat → Int32) (li : Nat → Int32) (n : Nat) (td : Nat → Int32) (br : Nat → Int32) (brk : Int32) (chk : Int32) (kn : Nat → Int32) (kd : Nat) (mf : Nat → Int32) (k : Nat) (L : Nat → Nat) (tN : Nat → Nat) (b : Nat → Nat) (I : Nat → Bool) (hK : NBK n kd L ln pl tN td br brk chk kn) (hM : NBB n mf k b I) : CTi E yX10_openBook (wq yX10_openBook cX10_openBook 3 (some .boolean)) (rmk 5 113) [.ref (A 0)] [ob (A 0) 10 [.ref (A 1), .ref (A 5), .ref (A 8), .ref (A 10), .ref (A 12), .ref (A 15), .ref (A 17), .ref (A 21), .ref (A 23), .ref (A 25)], ob (A 1) 8 [.ref (A 2), .ref (A 3), .ref (A 4), .int (nI n)], ia E (A 2) 60 ln, ia E (A 3) 480 pl, ia E (A 4) 9 li, ob (A 5) 9 [.ref (A 6), .ref (A 7), .int brk, .int chk], ia E (A 6) 3600 td, ia E (A 7) 3 br, ob (A 8) 3 [.ref (A 1), .ref (A 5), .ref (A 9), .int (nI kd)], ia E (A 9) 3600 kn, ob (A 10) 5 [.ref (A 11), .int (nI k)], ia E (A 11) 60 mf] (fun (r : Int32) (u : (Nat → Int32) × (Nat → Int32) × Int32 × Int32 × (Nat → Int32)) => NBK n kd L ln pl tN td u.2.1 u.2.2.1 u.2.2.2.1 u.2.2.2.2 ∧ ((r = 1 ∧ (kd = 5 → LW tN n) ∧ ALLK (dsN kd L pl tN) b k u.2.2.2.2) ∨ (r = 0 ∧ kd = 5 ∧ TBr tN u.2.1 n))) (fun (u : (Nat → Int32) × (Nat → Int32) × Int32 × Int32 × (Nat → Int32)) => [ob (A 0) 10 [.ref (A 1), .ref (A 5), .ref (A 8), .ref (A 10), .ref (A 12), .ref (A 15), .ref (A 17), .ref (A 21), .ref (A 23), .ref (A 25)], ob (A 1) 8 [.ref (A 2), .ref (A 3), .ref (A 4), .int (nI n)], ia E (A 2) 60 ln, ia E (A 3) 480 pl, ia E (A 4) 9 u.1, ob (A 5) 9 [.ref (A 6), .ref (A 7), .int u.2.2.1, .int u.2.2.2.1], ia E (A 6) 3600 td, ia E (A 7) 3 u.2.1, ob (A 8) 3 [.ref (A 1), .ref (A 5), .ref (A 9), .int (nI kd)], ia E (A 9) 3600 u.2.2.2.2, ob (A 10) 5 [.ref (A 11), .int (nI k)], ia E (A 11) 60 mf]) := by
  refine CTi.ofZ (by decide) (Nat.le_of_ble_eq_true rfl) (fun X F R => ?_)
  refine g_lv [0] [(0, .ref (A 0))] rfl ?_
  have hk := hM.1.1
  refine g_aload_n F 0 rfl dX10_openBook_0 ?_
  refine g_get F 10 0 2 inX10 rfl rfl (by decide) tw_fl_X10_28 rfl dX10_openBook_1 ?_
  refine g_cVi F (wr := [ob (A 0) 10 [.ref (A 1), .ref (A 5), .ref (A 8), .ref (A 10), .ref (A 12), .ref (A 15), .ref (A 17), .ref (A 21), .ref (A 23), .ref (A 25)], ob (A 10) 5 [.ref (A 11), .int (nI k)], ia E (A 11) 60 mf]) [] (c_X3_lawHolds E (A 8) (A 9) kn kd (A 1) (A 2) (A 3) (A 4) ln pl li n (A 5) (A 6) (A 7) td br brk chk L tN (hK.2.2.2.2.1) (hK.2.2.2.2.2.1) (hK.1) (hK.2.1) (hK.2.2.2.2.2.2.1)) (gi_V tw_ml_X10_121 tw_im_X3_lawHolds tw_se_X3_lawHolds tw_in_X3 tw_co_X3_lawHolds) 0 rfl (by decide) ⟨rfl, rfl, by decide, by decide, Nat.zero_le _, Nat.zero_le _⟩ 3 0 rfl rfl [8, 9, 1, 2, 3, 4, 5, 6, 7] [0, 10, 11] [0, 5, 6, 7, 8, 9, 10, 11, 3, 4, 1, 2] (fun u => [ob (A 0) 10 [.ref (A 1), .ref (A 5), .ref (A 8), .ref (A 10), .ref (A 12), .ref (A 15), .ref (A 17), .ref (A 21), .ref (A 23), .ref (A 25)], ob (A 1) 8 [.ref (A 2), .ref (A 3), .ref (A 4), .int (nI n)], ia E (A 2) 60 ln, ia E (A 3) 480 pl, ia E (A 4) 9 li, ob (A 5) 9 [.ref (A 6), .ref (A 7), .int u.2.1, .int u.2.2], ia E (A 6) 3600 td, ia E (A 7) 3 u.1, ob (A 8) 3 [.ref (A 1), .ref (A 5), .ref (A 9), .int (nI kd)], ia E (A 9) 3600 kn, ob (A 10) 5 [.ref (A 11), .int (nI k)], ia E (A 11) 60 mf]) rfl rfl (by decide) (fun _ => rfl) rfl (Nat.le_of_ble_eq_true rfl) dX10_openBook_4 (fun r_4 u hu_4 => ?_)
  obtain ⟨br2_4, bk2_4, ck2_4⟩ := u
  refine g_ws [ob (A 0) 10 [.ref (A 1), .ref (A 5), .ref (A 8), .ref (A 10), .ref (A 12), .ref (A 15), .ref (A 17), .ref (A 21), .ref (A 23), .ref (A 25)], ob (A 1) 8 [.ref (A 2), .ref (A 3), .ref (A 4), .int (nI n)], ia E (A 2) 60 ln, ia E (A 3) 480 pl, ia E (A 4) 9 li, ob (A 5) 9 [.ref (A 6), .ref (A 7), .int bk2_4, .int ck2_4], ia E (A 6) 3600 td, ia E (A 7) 3 br2_4, ob (A 8) 3 [.ref (A 1), .ref (A 5), .ref (A 9), .int (nI kd)], ia E (A 9) 3600 kn, ob (A 10) 5 [.ref (A 11), .int (nI k)], ia E (A 11) 60 mf] rfl ?_
  dsimp only at hu_4
  obtain ⟨hTn, hu_4⟩ := hu_4
  rcases hu_4 with ⟨rfl, h_4⟩ | ⟨rfl, h_4, h_4b⟩
  · refine g_if_ne F 12 dX10_openBook_7 (by decide) (fun _ => ?_) (fun h => absurd h (by decide))
    have hT2 := hTn
    refine g_iconst F (nI 0) (by decide) dX10_openBook_12 ?_
    refine g_istore_n F 1 [(0, .ref (A 0)), (1, .int (nI 0))] [1, 0] dX10_openBook_13 rfl (by decide) rfl ?_
    have lp_14 : ∀ (n_14 : Nat) (i : Nat) (l1 : Nat → Int32) (g1 : Nat → Int32), (i ≤ k) → (KN (dsN kd L pl tN) n g1) → (∀ x y, x < i → x < k → y ≤ x → g1 (b x * 60 + b y) = nI (dsN kd L pl tN (b x) (b y))) → k - i < n_14 → GW E X 0 0 [ob (A 0) 10 [.ref (A 1), .ref (A 5), .ref (A 8), .ref (A 10), .ref (A 12), .ref (A 15), .ref (A 17), .ref (A 21), .ref (A 23), .ref (A 25)], ob (A 1) 8 [.ref (A 2), .ref (A 3), .ref (A 4), .int (nI n)], ia E (A 2) 60 ln, ia E (A 3) 480 pl, ia E (A 4) 9 l1, ob (A 5) 9 [.ref (A 6), .ref (A 7), .int bk2_4, .int ck2_4], ia E (A 6) 3600 td, ia E (A 7) 3 br2_4, ob (A 8) 3 [.ref (A 1), .ref (A 5), .ref (A 9), .int (nI kd)], ia E (A 9) 3600 g1, ob (A 10) 5 [.ref (A 11), .int (nI k)], ia E (A 11) 60 mf] [(0, .ref (A 0)), (1, .int (nI i))] 14 [] := by
      intro n_14
      induction n_14 with
      | zero => intro i l1 g1 hi hkn hal hm_14; exact absurd hm_14 (Nat.not_lt_zero _)
      | succ n_14 ih_14 =>
        intro i l1 g1 hi hkn hal hm_14
        refine g_iload_n F 1 rfl dX10_openBook_14 ?_
        refine g_aload_n F 0 rfl dX10_openBook_15 ?_
        refine g_get F 10 0 3 inX10 rfl rfl (by decide) tw_fl_X10_35 rfl dX10_openBook_16 ?_
        refine g_rVi F (wr := [ob (A 0) 10 [.ref (A 1), .ref (A 5), .ref (A 8), .ref (A 10), .ref (A 12), .ref (A 15), .ref (A 17), .ref (A 21), .ref (A 23), .ref (A 25)], ob (A 1) 8 [.ref (A 2), .ref (A 3), .ref (A 4), .int (nI n)], ia E (A 2) 60 ln, ia E (A 3) 480 pl, ia E (A 4) 9 l1, ob (A 5) 9 [.ref (A 6), .ref (A 7), .int bk2_4, .int ck2_4], ia E (A 6) 3600 td, ia E (A 7) 3 br2_4, ob (A 8) 3 [.ref (A 1), .ref (A 5), .ref (A 9), .int (nI kd)], ia E (A 9) 3600 g1]) [.int (nI i)] (c_X5_size E (A 10) (A 11) mf k ) (gi_V tw_ml_X10_154 tw_im_X5_size tw_se_X5_size tw_in_X5 tw_co_X5_size) 0 rfl (by decide) ⟨rfl, rfl, by decide, by decide, Nat.zero_le _, Nat.zero_le _⟩ 5 0 rfl rfl [10, 11] [0, 1, 2, 3, 4, 5, 6, 7, 8, 9] [0, 1, 2, 3, 4, 5, 6, 7, 8, 9, 10, 11] rfl rfl (by decide) rfl rfl (Nat.le_of_ble_eq_true rfl) dX10_openBook_19 ?_
        refine n_icmp_ge F 68 dX10_openBook_22 (by decide) (by omega) (by omega) (fun c_22 => ?_) (fun c_22 => ?_)
        · refine g_iconst F (nI 1) (by decide) dX10_openBook_68 ?_
          exact R _ ((l1, br2_4, bk2_4, ck2_4, g1)) _ _ dX10_openBook_69 (Or.inr rfl) (by (try dsimp only); exact (⟨⟨hK.1, hK.2.1, hK.2.2.1, hK.2.2.2.1, hK.2.2.2.2.1, hK.2.2.2.2.2.1, hTn, hkn⟩, Or.inl ⟨rfl, h_4, fun x y hx hy => ⟨by
              have hx9 := (hM.1.2.1 x hx).2
              have hy9 := (hM.1.2.1 y hy).2
              rcases Nat.le_total y x with q | q
              · exact hal x y (by omega) hx q
              · rw [(hkn _ _ hx9 hy9).1, hal y x (by omega) hy q, ds_sym hK.2.2.2.2.2.1 hx9 hy9], ds_le hK.2.2.1 hK.2.2.2.1 hK.2.2.2.2.1 (hM.1.2.1 x hx).2 (hM.1.2.1 y hy).2⟩⟩⟩))
        · refine g_iconst F (nI 0) (by decide) dX10_openBook_25 ?_
          refine g_istore_n F 2 [(0, .ref (A 0)), (1, .int (nI i)), (2, .int (nI 0))] [1, 2, 0] dX10_openBook_26 rfl (by decide) rfl ?_
          have lp_27 : ∀ (n_27 : Nat) (j : Nat) (l2 : Nat → Int32) (g2 : Nat → Int32), (j ≤ i + 1) → (KN (dsN kd L pl tN) n g2) → (∀ x y, (x < i ∨ (x = i ∧ y < j)) → x < k → y ≤ x → g2 (b x * 60 + b y) = nI (dsN kd L pl tN (b x) (b y))) → i + 1 - j < n_27 → GW E X 0 0 [ob (A 0) 10 [.ref (A 1), .ref (A 5), .ref (A 8), .ref (A 10), .ref (A 12), .ref (A 15), .ref (A 17), .ref (A 21), .ref (A 23), .ref (A 25)], ob (A 1) 8 [.ref (A 2), .ref (A 3), .ref (A 4), .int (nI n)], ia E (A 2) 60 ln, ia E (A 3) 480 pl, ia E (A 4) 9 l2, ob (A 5) 9 [.ref (A 6), .ref (A 7), .int bk2_4, .int ck2_4], ia E (A 6) 3600 td, ia E (A 7) 3 br2_4, ob (A 8) 3 [.ref (A 1), .ref (A 5), .ref (A 9), .int (nI kd)], ia E (A 9) 3600 g2, ob (A 10) 5 [.ref (A 11), .int (nI k)], ia E (A 11) 60 mf] [(0, .ref (A 0)), (1, .int (nI i)), (2, .int (nI j))] 27 [] := by
            intro n_27
            induction n_27 with
            | zero => intro j l2 g2 hj hkn2 hal2 hm_27; exact absurd hm_27 (Nat.not_lt_zero _)
            | succ n_27 ih_27 =>
              intro j l2 g2 hj hkn2 hal2 hm_27
              refine g_iload_n F 2 rfl dX10_openBook_27 ?_
              refine g_iload_n F 1 rfl dX10_openBook_28 ?_
              refine n_icmp_gt F 62 dX10_openBook_29 (by decide) (by omega) (by omega) (fun c_29 => ?_) (fun c_29 => ?_)
              · refine g_iinc F (nI (i + 1)) 1 1 [(0, .ref (A 0)), (1, .int (nI (i + 1))), (2, .int (nI j))] [1, 0, 2] dX10_openBook_62 rfl (n_inc i) (by decide) rfl ?_
                refine g_goto F 14 dX10_openBook_65 (by decide) ?_
                refine g_lv [0, 1] [(0, .ref (A 0)), (1, .int (nI (i + 1)))] rfl ?_
                exact ih_14 (i + 1) l2 g2 (by omega) (hkn2) (fun x y h1 h2 h3 => (Nat.lt_or_ge x i).elim (fun z => hal2 x y (Or.inl z) h2 h3) (fun z => hal2 x y (Or.inr ⟨by omega, by omega⟩) h2 h3)) (by omega)
              · refine g_aload_n F 0 rfl dX10_openBook_32 ?_
                refine g_get F 10 0 2 inX10 rfl rfl (by decide) tw_fl_X10_28 rfl dX10_openBook_33 ?_
                refine g_aload_n F 0 rfl dX10_openBook_36 ?_
                refine g_get F 10 0 3 inX10 rfl rfl (by decide) tw_fl_X10_35 rfl dX10_openBook_37 ?_
                refine g_iload_n F 1 rfl dX10_openBook_40 ?_
                refine g_rVi F (wr := [ob (A 0) 10 [.ref (A 1), .ref (A 5), .ref (A 8), .ref (A 10), .ref (A 12), .ref (A 15), .ref (A 17), .ref (A 21), .ref (A 23), .ref (A 25)], ob (A 1) 8 [.ref (A 2), .ref (A 3), .ref (A 4), .int (nI n)], ia E (A 2) 60 ln, ia E (A 3) 480 pl, ia E (A 4) 9 l2, ob (A 5) 9 [.ref (A 6), .ref (A 7), .int bk2_4, .int ck2_4], ia E (A 6) 3600 td, ia E (A 7) 3 br2_4, ob (A 8) 3 [.ref (A 1), .ref (A 5), .ref (A 9), .int (nI kd)], ia E (A 9) 3600 g2]) [.ref (A 8)] (c_X5_at E (A 10) (A 11) mf k b i (fun i hi => (hM.1.2.1 i hi).1) (by omega) (by omega)) (gi_V tw_ml_X10_200 tw_im_X5_at tw_se_X5_at tw_in_X5 tw_co_X5_at) 1 rfl (by decide) ⟨rfl, rfl, by decide, by decide, Nat.zero_le _, Nat.zero_le _⟩ 5 0 rfl rfl [10, 11] [0, 1, 2, 3, 4, 5, 6, 7, 8, 9] [0, 1, 2, 3, 4, 5, 6, 7, 8, 9, 10, 11] rfl rfl (by decide) rfl rfl (Nat.le_of_ble_eq_true rfl) dX10_openBook_41 ?_
                refine g_aload_n F 0 rfl dX10_openBook_44 ?_
                refine g_get F 10 0 3 inX10 rfl rfl (by decide) tw_fl_X10_35 rfl dX10_openBook_45 ?_
                refine g_iload_n F 2 rfl dX10_openBook_48 ?_
                refine g_rVi F (wr := [ob (A 0) 10 [.ref (A 1), .ref (A 5), .ref (A 8), .ref (A 10), .ref (A 12), .ref (A 15), .ref (A 17), .ref (A 21), .ref (A 23), .ref (A 25)], ob (A 1) 8 [.ref (A 2), .ref (A 3), .ref (A 4), .int (nI n)], ia E (A 2) 60 ln, ia E (A 3) 480 pl, ia E (A 4) 9 l2, ob (A 5) 9 [.ref (A 6), .ref (A 7), .int bk2_4, .int ck2_4], ia E (A 6) 3600 td, ia E (A 7) 3 br2_4, ob (A 8) 3 [.ref (A 1), .ref (A 5), .ref (A 9), .int (nI kd)], ia E (A 9) 3600 g2]) [.int (nI (b i)), .ref (A 8)] (c_X5_at E (A 10) (A 11) mf k b j (fun i hi => (hM.1.2.1 i hi).1) (by omega) (by omega)) (gi_V tw_ml_X10_200 tw_im_X5_at tw_se_X5_at tw_in_X5 tw_co_X5_at) 1 rfl (by decide) ⟨rfl, rfl, by decide, by decide, Nat.zero_le _, Nat.zero_le _⟩ 5 0 rfl rfl [10, 11] [0, 1, 2, 3, 4, 5, 6, 7, 8, 9] [0, 1, 2, 3, 4, 5, 6, 7, 8, 9, 10, 11] rfl rfl (by decide) rfl rfl (Nat.le_of_ble_eq_true rfl) dX10_openBook_49 ?_
                refine g_cVi F (wr := [ob (A 0) 10 [.ref (A 1), .ref (A 5), .ref (A 8), .ref (A 10), .ref (A 12), .ref (A 15), .ref (A 17), .ref (A 21), .ref (A 23), .ref (A 25)], ob (A 10) 5 [.ref (A 11), .int (nI k)], ia E (A 11) 60 mf]) [] (c_X3_between E (A 8) (A 9) g2 kd (A 1) (A 2) (A 3) (A 4) ln pl l2 n (A 5) (A 6) (A 7) td br2_4 bk2_4 ck2_4 L tN (b i) (b j) (hK.2.2.2.1) (hK.2.2.1) (hK.2.2.2.2.1) (hK.2.1) (hK.1) (hM.lt (by omega)) (hM.lt (by omega)) (hkn2) (ds_sym hK.2.2.2.2.2.1 (Nat.lt_of_lt_of_le (hM.lt (by omega)) hK.1) (Nat.lt_of_lt_of_le (hM.lt (by omega)) hK.1))) (gi_V tw_ml_X10_117 tw_im_X3_between tw_se_X3_between tw_in_X3 tw_co_X3_between) 2 rfl (by decide) ⟨rfl, rfl, by decide, by decide, Nat.zero_le _, Nat.zero_le _⟩ 3 0 rfl rfl [8, 9, 1, 2, 3, 4, 5, 6, 7] [0, 10, 11] [0, 5, 6, 7, 8, 9, 10, 11, 3, 4, 1, 2] (fun u => [ob (A 0) 10 [.ref (A 1), .ref (A 5), .ref (A 8), .ref (A 10), .ref (A 12), .ref (A 15), .ref (A 17), .ref (A 21), .ref (A 23), .ref (A 25)], ob (A 1) 8 [.ref (A 2), .ref (A 3), .ref (A 4), .int (nI n)], ia E (A 2) 60 ln, ia E (A 3) 480 pl, ia E (A 4) 9 u.1, ob (A 5) 9 [.ref (A 6), .ref (A 7), .int bk2_4, .int ck2_4], ia E (A 6) 3600 td, ia E (A 7) 3 br2_4, ob (A 8) 3 [.ref (A 1), .ref (A 5), .ref (A 9), .int (nI kd)], ia E (A 9) 3600 u.2, ob (A 10) 5 [.ref (A 11), .int (nI k)], ia E (A 11) 60 mf]) rfl rfl (by decide) (fun _ => rfl) rfl (Nat.le_of_ble_eq_true rfl) dX10_openBook_52 (fun r_52 u hu_52 => ?_)
                obtain ⟨li_52, kn_52⟩ := u
                refine g_ws [ob (A 0) 10 [.ref (A 1), .ref (A 5), .ref (A 8), .ref (A 10), .ref (A 12), .ref (A 15), .ref (A 17), .ref (A 21), .ref (A 23), .ref (A 25)], ob (A 1) 8 [.ref (A 2), .ref (A 3), .ref (A 4), .int (nI n)], ia E (A 2) 60 ln, ia E (A 3) 480 pl, ia E (A 4) 9 li_52, ob (A 5) 9 [.ref (A 6), .ref (A 7), .int bk2_4, .int ck2_4], ia E (A 6) 3600 td, ia E (A 7) 3 br2_4, ob (A 8) 3 [.ref (A 1), .ref (A 5), .ref (A 9), .int (nI kd)], ia E (A 9) 3600 kn_52, ob (A 10) 5 [.ref (A 11), .int (nI k)], ia E (A 11) 60 mf] rfl ?_
                dsimp only at hu_52
                obtain ⟨rfl, hkn3, hkn4, hkn5⟩ := hu_52
                refine g_pop F rfl dX10_openBook_55 ?_
                refine g_iinc F (nI (j + 1)) 2 2 [(0, .ref (A 0)), (1, .int (nI i)), (2, .int (nI (j + 1)))] [1, 2, 0] dX10_openBook_56 rfl (n_inc j) (by decide) rfl ?_
                refine g_goto F 27 dX10_openBook_59 (by decide) ?_
                exact ih_27 (j + 1) li_52 kn_52 (by omega) (hkn3) (fun x y h1 h2 h3 => by
                    by_cases z : x = i ∧ y = j
                    · rw [z.1, z.2]; exact hkn4
                    · have q := hal2 x y (by omega) h2 h3
                      have hx9 := (hM.1.2.1 x h2).2
                      have hy9 := (hM.1.2.1 y (by omega)).2
                      rw [hkn5 _ _ hx9 hy9 (by rw [q]; exact nI_m1 (by have := ds_le (kd := kd) hK.2.2.1 hK.2.2.2.1 hK.2.2.2.2.1 hx9 hy9; omega))]
                      exact q) (by omega)
          exact lp_27 _ 0 l1 g1 (by omega) (hkn) (fun x y h1 h2 h3 => hal x y (by omega) h2 h3) (Nat.lt_succ_self _)
    exact lp_14 _ 0 li kn (by omega) (hK.2.2.2.2.2.2.2) (fun x y h => absurd h (Nat.not_lt_zero x)) (Nat.lt_succ_self _)
  · refine g_if_ne F 12 dX10_openBook_7 (by decide) (fun h => absurd (by decide) h) (fun _ => ?_)
    refine g_iconst F (nI 0) (by decide) dX10_openBook_10 ?_
    exact R _ ((li, br2_4, bk2_4, ck2_4, kn)) _ _ dX10_openBook_11 (Or.inl rfl) (by (try dsimp only); exact (⟨⟨hK.1, hK.2.1, hK.2.2.1, hK.2.2.2.1, hK.2.2.2.2.1, hK.2.2.2.2.2.1, hTn, hK.2.2.2.2.2.2.2⟩, Or.inr ⟨rfl, h_4, h_4b⟩⟩))

set_option maxHeartbeats 4000000 in
set_option maxRecDepth 100000 in
theorem c_X10_rankNearFirst (E : Ev) (A : Nat → Nat) (ln : Nat → Int32) (pl : Nat → Int32) (li : Nat → Int32) (n : Nat) (td : Nat → Int32) (br : Nat → Int32) (brk : Int32) (chk : Int32) (kn : Nat → Int32) (kd : Nat) (mf : Nat → Int32) (k : Nat) (L : Nat → Nat) (tN : Nat → Nat) (b : Nat → Nat) (I : Nat → Bool) (kf : Nat → Int32) (ks : Int32) (q : Nat) (r0 : Nat) (hK : NBK n kd L ln pl tN td br brk chk kn) (hM : NBB n mf k b I) (hq : q < n) (hr0 : r0 < 2 ^ 31) : CTv E yX10_rankNearFirst (wq yX10_rankNearFirst cX10_rankNearFirst 6 none) (rmk 5 113) [.ref (A 0), .int (nI q), .int (nI r0)] [ob (A 0) 10 [.ref (A 1), .ref (A 5), .ref (A 8), .ref (A 10), .ref (A 12), .ref (A 15), .ref (A 17), .ref (A 21), .ref (A 23), .ref (A 25)], ob (A 1) 8 [.ref (A 2), .ref (A 3), .ref (A 4), .int (nI n)], ia E (A 2) 60 ln, ia E (A 3) 480 pl, ia E (A 4) 9 li, ob (A 5) 9 [.ref (A 6), .ref (A 7), .int brk, .int chk], ia E (A 6) 3600 td, ia E (A 7) 3 br, ob (A 8) 3 [.ref (A 1), .ref (A 5), .ref (A 9), .int (nI kd)], ia E (A 9) 3600 kn, ob (A 10) 5 [.ref (A 11), .int (nI k)], ia E (A 11) 60 mf, ob (A 15) 4 [.ref (A 16), .int ks], ia E (A 16) 60 kf] (fun (u : (Nat → Int32) × (Nat → Int32) × (Nat → Int32) × Nat) => NBK n kd L ln pl tN td br brk chk u.2.1 ∧ ∃ ka, SQ 6000060 u.2.2.1 u.2.2.2 ka ∧ ∀ x, (∃ i, i < u.2.2.2 ∧ ka i = x) ↔ ∃ t, I t = true ∧ dsN kd L pl tN q t ≤ r0 ∧ x = dsN kd L pl tN q t * 60 + t) (fun (u : (Nat → Int32) × (Nat → Int32) × (Nat → Int32) × Nat) => [ob (A 0) 10 [.ref (A 1), .ref (A 5), .ref (A 8), .ref (A 10), .ref (A 12), .ref (A 15), .ref (A 17), .ref (A 21), .ref (A 23), .ref (A 25)], ob (A 1) 8 [.ref (A 2), .ref (A 3), .ref (A 4), .int (nI n)], ia E (A 2) 60 ln, ia E (A 3) 480 pl, ia E (A 4) 9 u.1, ob (A 5) 9 [.ref (A 6), .ref (A 7), .int brk, .int chk], ia E (A 6) 3600 td, ia E (A 7) 3 br, ob (A 8) 3 [.ref (A 1), .ref (A 5), .ref (A 9), .int (nI kd)], ia E (A 9) 3600 u.2.1, ob (A 10) 5 [.ref (A 11), .int (nI k)], ia E (A 11) 60 mf, ob (A 15) 4 [.ref (A 16), .int (nI u.2.2.2)], ia E (A 16) 60 u.2.2.1]) := by
  refine CTv.of (by decide) (Nat.le_of_ble_eq_true rfl) (fun X F R => ?_)
  refine g_lv [0, 1, 2] [(0, .ref (A 0)), (1, .int (nI q)), (2, .int (nI r0))] rfl ?_
  have hk := hM.1.1
  have hn60 := hK.1
  refine g_aload_n F 0 rfl dX10_rankNearFirst_0 ?_
  refine g_get F 10 0 5 inX10 rfl rfl (by decide) tw_fl_X10_49 rfl dX10_rankNearFirst_1 ?_
  refine g_cVv F (wr := [ob (A 0) 10 [.ref (A 1), .ref (A 5), .ref (A 8), .ref (A 10), .ref (A 12), .ref (A 15), .ref (A 17), .ref (A 21), .ref (A 23), .ref (A 25)], ob (A 1) 8 [.ref (A 2), .ref (A 3), .ref (A 4), .int (nI n)], ia E (A 2) 60 ln, ia E (A 3) 480 pl, ia E (A 4) 9 li, ob (A 5) 9 [.ref (A 6), .ref (A 7), .int brk, .int chk], ia E (A 6) 3600 td, ia E (A 7) 3 br, ob (A 8) 3 [.ref (A 1), .ref (A 5), .ref (A 9), .int (nI kd)], ia E (A 9) 3600 kn, ob (A 10) 5 [.ref (A 11), .int (nI k)], ia E (A 11) 60 mf]) [] (c_X4_clear E (A 15) (A 16) kf ks ) (gi_V tw_ml_X10_230 tw_im_X4_clear tw_se_X4_clear tw_in_X4 tw_co_X4_clear) 0 rfl (by decide) ⟨rfl, rfl, by decide, by decide, Nat.zero_le _, Nat.zero_le _⟩ 4 0 rfl rfl [12, 13] [0, 1, 2, 3, 4, 5, 6, 7, 8, 9, 10, 11] [0, 1, 2, 3, 4, 5, 6, 7, 8, 9, 10, 11, 12, 13] (fun u => [ob (A 0) 10 [.ref (A 1), .ref (A 5), .ref (A 8), .ref (A 10), .ref (A 12), .ref (A 15), .ref (A 17), .ref (A 21), .ref (A 23), .ref (A 25)], ob (A 1) 8 [.ref (A 2), .ref (A 3), .ref (A 4), .int (nI n)], ia E (A 2) 60 ln, ia E (A 3) 480 pl, ia E (A 4) 9 li, ob (A 5) 9 [.ref (A 6), .ref (A 7), .int brk, .int chk], ia E (A 6) 3600 td, ia E (A 7) 3 br, ob (A 8) 3 [.ref (A 1), .ref (A 5), .ref (A 9), .int (nI kd)], ia E (A 9) 3600 kn, ob (A 10) 5 [.ref (A 11), .int (nI k)], ia E (A 11) 60 mf, ob (A 15) 4 [.ref (A 16), .int (nI 0)], ia E (A 16) 60 kf]) rfl rfl (by decide) (fun _ => rfl) rfl (Nat.le_of_ble_eq_true rfl) dX10_rankNearFirst_4 (fun u hu_4 => ?_)
  refine g_iconst F (nI 0) (by decide) dX10_rankNearFirst_7 ?_
  refine g_istore_n F 3 [(0, .ref (A 0)), (1, .int (nI q)), (2, .int (nI r0)), (3, .int (nI 0))] [1, 2, 3, 0] dX10_rankNearFirst_8 rfl (by decide) rfl ?_
  have lp_9 : ∀ (n_9 : Nat) (i : Nat) (l1 : Nat → Int32) (g1 : Nat → Int32) (f1 : Nat → Int32) (c1 : Nat) (ka : Nat → Nat), (i ≤ k) → (KN (dsN kd L pl tN) n g1) → (c1 ≤ i) → (SQ 6000060 f1 c1 ka) → (∀ x, (∃ j, j < c1 ∧ ka j = x) ↔ ∃ j, j < i ∧ dsN kd L pl tN q (b j) ≤ r0 ∧ x = dsN kd L pl tN q (b j) * 60 + (b j)) → k - i < n_9 → GW E X 0 0 [ob (A 0) 10 [.ref (A 1), .ref (A 5), .ref (A 8), .ref (A 10), .ref (A 12), .ref (A 15), .ref (A 17), .ref (A 21), .ref (A 23), .ref (A 25)], ob (A 1) 8 [.ref (A 2), .ref (A 3), .ref (A 4), .int (nI n)], ia E (A 2) 60 ln, ia E (A 3) 480 pl, ia E (A 4) 9 l1, ob (A 5) 9 [.ref (A 6), .ref (A 7), .int brk, .int chk], ia E (A 6) 3600 td, ia E (A 7) 3 br, ob (A 8) 3 [.ref (A 1), .ref (A 5), .ref (A 9), .int (nI kd)], ia E (A 9) 3600 g1, ob (A 10) 5 [.ref (A 11), .int (nI k)], ia E (A 11) 60 mf, ob (A 15) 4 [.ref (A 16), .int (nI c1)], ia E (A 16) 60 f1] [(0, .ref (A 0)), (1, .int (nI q)), (2, .int (nI r0)), (3, .int (nI i))] 9 [] := by
    intro n_9
    induction n_9 with
    | zero => intro i l1 g1 f1 c1 ka hi hkn hc1 hsq hset hm_9; exact absurd hm_9 (Nat.not_lt_zero _)
    | succ n_9 ih_9 =>
      intro i l1 g1 f1 c1 ka hi hkn hc1 hsq hset hm_9
      refine g_iload_n F 3 rfl dX10_rankNearFirst_9 ?_
      refine g_aload_n F 0 rfl dX10_rankNearFirst_10 ?_
      refine g_get F 10 0 3 inX10 rfl rfl (by decide) tw_fl_X10_35 rfl dX10_rankNearFirst_11 ?_
      refine g_rVi F (wr := [ob (A 0) 10 [.ref (A 1), .ref (A 5), .ref (A 8), .ref (A 10), .ref (A 12), .ref (A 15), .ref (A 17), .ref (A 21), .ref (A 23), .ref (A 25)], ob (A 1) 8 [.ref (A 2), .ref (A 3), .ref (A 4), .int (nI n)], ia E (A 2) 60 ln, ia E (A 3) 480 pl, ia E (A 4) 9 l1, ob (A 5) 9 [.ref (A 6), .ref (A 7), .int brk, .int chk], ia E (A 6) 3600 td, ia E (A 7) 3 br, ob (A 8) 3 [.ref (A 1), .ref (A 5), .ref (A 9), .int (nI kd)], ia E (A 9) 3600 g1, ob (A 15) 4 [.ref (A 16), .int (nI c1)], ia E (A 16) 60 f1]) [.int (nI i)] (c_X5_size E (A 10) (A 11) mf k ) (gi_V tw_ml_X10_154 tw_im_X5_size tw_se_X5_size tw_in_X5 tw_co_X5_size) 0 rfl (by decide) ⟨rfl, rfl, by decide, by decide, Nat.zero_le _, Nat.zero_le _⟩ 5 0 rfl rfl [10, 11] [0, 1, 2, 3, 4, 5, 6, 7, 8, 9, 12, 13] [0, 1, 2, 3, 4, 5, 6, 7, 8, 9, 12, 13, 10, 11] rfl rfl (by decide) rfl rfl (Nat.le_of_ble_eq_true rfl) dX10_rankNearFirst_14 ?_
      refine n_icmp_ge F 69 dX10_rankNearFirst_17 (by decide) (by omega) (by omega) (fun c_17 => ?_) (fun c_17 => ?_)
      · exact R ((l1, g1, f1, c1)) _ _ dX10_rankNearFirst_69 (by (try dsimp only); exact (⟨⟨hK.1, hK.2.1, hK.2.2.1, hK.2.2.2.1, hK.2.2.2.2.1, hK.2.2.2.2.2.1, hK.2.2.2.2.2.2.1, hkn⟩, ka, hsq, fun x => (hset x).trans ⟨fun ⟨j, hj, e⟩ => ⟨b j, hM.2.1.at (by omega), e⟩, fun ⟨t, ht, e⟩ => by
            obtain ⟨j, hj, rfl⟩ := (hM.2.1 t).mp ht
            exact ⟨j, by omega, e⟩⟩⟩))
      · refine g_aload_n F 0 rfl dX10_rankNearFirst_20 ?_
        refine g_get F 10 0 3 inX10 rfl rfl (by decide) tw_fl_X10_35 rfl dX10_rankNearFirst_21 ?_
        refine g_iload_n F 3 rfl dX10_rankNearFirst_24 ?_
        refine g_rVi F (wr := [ob (A 0) 10 [.ref (A 1), .ref (A 5), .ref (A 8), .ref (A 10), .ref (A 12), .ref (A 15), .ref (A 17), .ref (A 21), .ref (A 23), .ref (A 25)], ob (A 1) 8 [.ref (A 2), .ref (A 3), .ref (A 4), .int (nI n)], ia E (A 2) 60 ln, ia E (A 3) 480 pl, ia E (A 4) 9 l1, ob (A 5) 9 [.ref (A 6), .ref (A 7), .int brk, .int chk], ia E (A 6) 3600 td, ia E (A 7) 3 br, ob (A 8) 3 [.ref (A 1), .ref (A 5), .ref (A 9), .int (nI kd)], ia E (A 9) 3600 g1, ob (A 15) 4 [.ref (A 16), .int (nI c1)], ia E (A 16) 60 f1]) [] (c_X5_at E (A 10) (A 11) mf k b i (fun i hi => (hM.1.2.1 i hi).1) (by omega) (by omega)) (gi_V tw_ml_X10_200 tw_im_X5_at tw_se_X5_at tw_in_X5 tw_co_X5_at) 1 rfl (by decide) ⟨rfl, rfl, by decide, by decide, Nat.zero_le _, Nat.zero_le _⟩ 5 0 rfl rfl [10, 11] [0, 1, 2, 3, 4, 5, 6, 7, 8, 9, 12, 13] [0, 1, 2, 3, 4, 5, 6, 7, 8, 9, 12, 13, 10, 11] rfl rfl (by decide) rfl rfl (Nat.le_of_ble_eq_true rfl) dX10_rankNearFirst_25 ?_
        refine g_istore F 4 [(0, .ref (A 0)), (1, .int (nI q)), (2, .int (nI r0)), (3, .int (nI i)), (4, .int (nI (b i)))] [1, 2, 3, 4, 0] dX10_rankNearFirst_28 (by decide) rfl ?_
        refine g_aload_n F 0 rfl dX10_rankNearFirst_30 ?_
        refine g_get F 10 0 2 inX10 rfl rfl (by decide) tw_fl_X10_28 rfl dX10_rankNearFirst_31 ?_
        refine g_iload_n F 1 rfl dX10_rankNearFirst_34 ?_
        refine g_iload F 4 rfl dX10_rankNearFirst_35 ?_
        refine g_cVi F (wr := [ob (A 0) 10 [.ref (A 1), .ref (A 5), .ref (A 8), .ref (A 10), .ref (A 12), .ref (A 15), .ref (A 17), .ref (A 21), .ref (A 23), .ref (A 25)], ob (A 10) 5 [.ref (A 11), .int (nI k)], ia E (A 11) 60 mf, ob (A 15) 4 [.ref (A 16), .int (nI c1)], ia E (A 16) 60 f1]) [] (c_X3_between E (A 8) (A 9) g1 kd (A 1) (A 2) (A 3) (A 4) ln pl l1 n (A 5) (A 6) (A 7) td br brk chk L tN q (b i) (hK.2.2.2.1) (hK.2.2.1) (hK.2.2.2.2.1) (hK.2.1) (hK.1) (hq) (hM.lt (by omega)) (hkn) (ds_sym hK.2.2.2.2.2.1 (Nat.lt_of_lt_of_le (hq) hK.1) (Nat.lt_of_lt_of_le (hM.lt (by omega)) hK.1))) (gi_V tw_ml_X10_117 tw_im_X3_between tw_se_X3_between tw_in_X3 tw_co_X3_between) 2 rfl (by decide) ⟨rfl, rfl, by decide, by decide, Nat.zero_le _, Nat.zero_le _⟩ 3 0 rfl rfl [8, 9, 1, 2, 3, 4, 5, 6, 7] [0, 10, 11, 12, 13] [0, 7, 8, 9, 10, 11, 12, 13, 5, 6, 1, 2, 3, 4] (fun u => [ob (A 0) 10 [.ref (A 1), .ref (A 5), .ref (A 8), .ref (A 10), .ref (A 12), .ref (A 15), .ref (A 17), .ref (A 21), .ref (A 23), .ref (A 25)], ob (A 1) 8 [.ref (A 2), .ref (A 3), .ref (A 4), .int (nI n)], ia E (A 2) 60 ln, ia E (A 3) 480 pl, ia E (A 4) 9 u.1, ob (A 5) 9 [.ref (A 6), .ref (A 7), .int brk, .int chk], ia E (A 6) 3600 td, ia E (A 7) 3 br, ob (A 8) 3 [.ref (A 1), .ref (A 5), .ref (A 9), .int (nI kd)], ia E (A 9) 3600 u.2, ob (A 10) 5 [.ref (A 11), .int (nI k)], ia E (A 11) 60 mf, ob (A 15) 4 [.ref (A 16), .int (nI c1)], ia E (A 16) 60 f1]) rfl rfl (by decide) (fun _ => rfl) rfl (Nat.le_of_ble_eq_true rfl) dX10_rankNearFirst_37 (fun r_37 u hu_37 => ?_)
        obtain ⟨li_37, kn_37⟩ := u
        refine g_ws [ob (A 0) 10 [.ref (A 1), .ref (A 5), .ref (A 8), .ref (A 10), .ref (A 12), .ref (A 15), .ref (A 17), .ref (A 21), .ref (A 23), .ref (A 25)], ob (A 1) 8 [.ref (A 2), .ref (A 3), .ref (A 4), .int (nI n)], ia E (A 2) 60 ln, ia E (A 3) 480 pl, ia E (A 4) 9 li_37, ob (A 5) 9 [.ref (A 6), .ref (A 7), .int brk, .int chk], ia E (A 6) 3600 td, ia E (A 7) 3 br, ob (A 8) 3 [.ref (A 1), .ref (A 5), .ref (A 9), .int (nI kd)], ia E (A 9) 3600 kn_37, ob (A 10) 5 [.ref (A 11), .int (nI k)], ia E (A 11) 60 mf, ob (A 15) 4 [.ref (A 16), .int (nI c1)], ia E (A 16) 60 f1] rfl ?_
        dsimp only at hu_37
        obtain ⟨rfl, hkn3, hkn4, hkn5⟩ := hu_37
        refine g_istore F 5 [(0, .ref (A 0)), (1, .int (nI q)), (2, .int (nI r0)), (3, .int (nI i)), (4, .int (nI (b i))), (5, .int (nI (dsN kd L pl tN q (b i))))] [1, 2, 3, 4, 5, 0] dX10_rankNearFirst_40 (by decide) rfl ?_
        have hdl := ds_le (kd := kd) (a := q) (b := b i) hK.2.2.1 hK.2.2.2.1 hK.2.2.2.2.1 (by omega) (hM.1.2.1 i (by omega)).2
        have hb9 := (hM.1.2.1 i (by omega)).2
        refine g_iload F 5 rfl dX10_rankNearFirst_42 ?_
        refine g_iload_n F 2 rfl dX10_rankNearFirst_44 ?_
        refine n_icmp_gt F 63 dX10_rankNearFirst_45 (by decide) (by omega) (by omega) (fun c_45 => ?_) (fun c_45 => ?_)
        · refine g_iinc F (nI (i + 1)) 3 3 [(0, .ref (A 0)), (1, .int (nI q)), (2, .int (nI r0)), (3, .int (nI (i + 1))), (4, .int (nI (b i))), (5, .int (nI (dsN kd L pl tN q (b i))))] [1, 2, 3, 0, 4, 5] dX10_rankNearFirst_63 rfl (n_inc i) (by decide) rfl ?_
          refine g_goto F 9 dX10_rankNearFirst_66 (by decide) ?_
          refine g_lv [0, 1, 2, 3] [(0, .ref (A 0)), (1, .int (nI q)), (2, .int (nI r0)), (3, .int (nI (i + 1)))] rfl ?_
          exact ih_9 (i + 1) li_37 kn_37 f1 c1 ka (by omega) (hkn3) (by omega) (hsq) (fun x => (hset x).trans ⟨fun ⟨j, hj, e⟩ => ⟨j, by omega, e⟩, fun ⟨j, hj, e⟩ => ⟨j, (Nat.lt_or_ge j i).elim id (fun z => by
              rw [show j = i by omega] at e
              omega), e⟩⟩) (by omega)
        · refine g_aload_n F 0 rfl dX10_rankNearFirst_48 ?_
          refine g_get F 10 0 5 inX10 rfl rfl (by decide) tw_fl_X10_49 rfl dX10_rankNearFirst_49 ?_
          refine g_iload F 5 rfl dX10_rankNearFirst_52 ?_
          refine g_bipush F (nI 60) (by decide) dX10_rankNearFirst_54 ?_
          refine n_mul F dX10_rankNearFirst_56 ?_
          refine g_iload F 4 rfl dX10_rankNearFirst_57 ?_
          refine n_add F dX10_rankNearFirst_59 ?_
          refine g_cVv F (wr := [ob (A 0) 10 [.ref (A 1), .ref (A 5), .ref (A 8), .ref (A 10), .ref (A 12), .ref (A 15), .ref (A 17), .ref (A 21), .ref (A 23), .ref (A 25)], ob (A 1) 8 [.ref (A 2), .ref (A 3), .ref (A 4), .int (nI n)], ia E (A 2) 60 ln, ia E (A 3) 480 pl, ia E (A 4) 9 li_37, ob (A 5) 9 [.ref (A 6), .ref (A 7), .int brk, .int chk], ia E (A 6) 3600 td, ia E (A 7) 3 br, ob (A 8) 3 [.ref (A 1), .ref (A 5), .ref (A 9), .int (nI kd)], ia E (A 9) 3600 kn_37, ob (A 10) 5 [.ref (A 11), .int (nI k)], ia E (A 11) 60 mf]) [] (c_X4_insert E (A 15) (A 16) f1 c1 6000060 ka (((dsN kd L pl tN q (b i)) * 60) + (b i)) (by decide) (by omega) (hsq) (fun j hj e => by
              obtain ⟨j2, hj2, e2⟩ := (hset _).mp ⟨j, hj, e⟩
              have hb8 := (hM.1.2.1 j2 (by omega)).2
              have := mb_inj hM.1 (show i < k by omega) (show j2 < k by omega) (by have := e2.2; omega)
              omega) (by omega)) (gi_V tw_ml_X10_231 tw_im_X4_insert tw_se_X4_insert tw_in_X4 tw_co_X4_insert) 1 rfl (by decide) ⟨rfl, rfl, by decide, by decide, Nat.zero_le _, Nat.zero_le _⟩ 4 0 rfl rfl [12, 13] [0, 1, 2, 3, 4, 5, 6, 7, 8, 9, 10, 11] [0, 1, 2, 3, 4, 5, 6, 7, 8, 9, 10, 11, 12, 13] (fun u => [ob (A 0) 10 [.ref (A 1), .ref (A 5), .ref (A 8), .ref (A 10), .ref (A 12), .ref (A 15), .ref (A 17), .ref (A 21), .ref (A 23), .ref (A 25)], ob (A 1) 8 [.ref (A 2), .ref (A 3), .ref (A 4), .int (nI n)], ia E (A 2) 60 ln, ia E (A 3) 480 pl, ia E (A 4) 9 li_37, ob (A 5) 9 [.ref (A 6), .ref (A 7), .int brk, .int chk], ia E (A 6) 3600 td, ia E (A 7) 3 br, ob (A 8) 3 [.ref (A 1), .ref (A 5), .ref (A 9), .int (nI kd)], ia E (A 9) 3600 kn_37, ob (A 10) 5 [.ref (A 11), .int (nI k)], ia E (A 11) 60 mf, ob (A 15) 4 [.ref (A 16), .int (nI (c1 + 1))], ia E (A 16) 60 u]) rfl rfl (by decide) (fun _ => rfl) rfl (Nat.le_of_ble_eq_true rfl) dX10_rankNearFirst_60 (fun u hu_60 => ?_)
          revert hu_60; revert u; intro f2_60 hu_60
          obtain ⟨ka2, hsq2, hset2⟩ := hu_60
          refine g_iinc F (nI (i + 1)) 3 3 [(0, .ref (A 0)), (1, .int (nI q)), (2, .int (nI r0)), (3, .int (nI (i + 1))), (4, .int (nI (b i))), (5, .int (nI (dsN kd L pl tN q (b i))))] [1, 2, 3, 0, 4, 5] dX10_rankNearFirst_63 rfl (n_inc i) (by decide) rfl ?_
          refine g_goto F 9 dX10_rankNearFirst_66 (by decide) ?_
          refine g_lv [0, 1, 2, 3] [(0, .ref (A 0)), (1, .int (nI q)), (2, .int (nI r0)), (3, .int (nI (i + 1)))] rfl ?_
          exact ih_9 (i + 1) li_37 kn_37 f2_60 (c1 + 1) ka2 (by omega) (hkn3) (by omega) (hsq2) (fun x => (hset2 x).trans ⟨fun z => z.elim (fun z => ⟨i, by omega, c_45, z⟩) (fun z => by
              obtain ⟨j, hj, e⟩ := (hset x).mp z
              exact ⟨j, by omega, e⟩), fun ⟨j, hj, e⟩ => (Nat.lt_or_ge j i).elim (fun z => Or.inr ((hset x).mpr ⟨j, z, e⟩)) (fun z => by
              rw [show j = i by omega] at e
              exact Or.inl e.2)⟩) (by omega)
  exact lp_9 _ 0 li kn kf 0 (fun _ => 0) (by omega) (hK.2.2.2.2.2.2.2) (by omega) (⟨by omega, fun i hi => absurd hi (Nat.not_lt_zero i), fun i j _ hj => absurd hj (Nat.not_lt_zero j)⟩) (fun x => ⟨fun ⟨j, hj, _⟩ => absurd hj (Nat.not_lt_zero j), fun ⟨j, hj, _⟩ => absurd hj (Nat.not_lt_zero j)⟩) (Nat.lt_succ_self _)

set_option maxHeartbeats 4000000 in
set_option maxRecDepth 100000 in
theorem c_X10_rankFarFirst (E : Ev) (A : Nat → Nat) (ln : Nat → Int32) (pl : Nat → Int32) (li : Nat → Int32) (n : Nat) (td : Nat → Int32) (br : Nat → Int32) (brk : Int32) (chk : Int32) (kn : Nat → Int32) (kd : Nat) (mf : Nat → Int32) (k : Nat) (L : Nat → Nat) (tN : Nat → Nat) (b : Nat → Nat) (I : Nat → Bool) (kf : Nat → Int32) (ks : Int32) (q : Nat) (hK : NBK n kd L ln pl tN td br brk chk kn) (hM : NBB n mf k b I) (hq : q < n) : CTv E yX10_rankFarFirst (wq yX10_rankFarFirst cX10_rankFarFirst 5 none) (rmk 5 113) [.ref (A 0), .int (nI q)] [ob (A 0) 10 [.ref (A 1), .ref (A 5), .ref (A 8), .ref (A 10), .ref (A 12), .ref (A 15), .ref (A 17), .ref (A 21), .ref (A 23), .ref (A 25)], ob (A 1) 8 [.ref (A 2), .ref (A 3), .ref (A 4), .int (nI n)], ia E (A 2) 60 ln, ia E (A 3) 480 pl, ia E (A 4) 9 li, ob (A 5) 9 [.ref (A 6), .ref (A 7), .int brk, .int chk], ia E (A 6) 3600 td, ia E (A 7) 3 br, ob (A 8) 3 [.ref (A 1), .ref (A 5), .ref (A 9), .int (nI kd)], ia E (A 9) 3600 kn, ob (A 10) 5 [.ref (A 11), .int (nI k)], ia E (A 11) 60 mf, ob (A 15) 4 [.ref (A 16), .int ks], ia E (A 16) 60 kf] (fun (u : (Nat → Int32) × (Nat → Int32) × (Nat → Int32) × Nat) => NBK n kd L ln pl tN td br brk chk u.2.1 ∧ ∃ ka, SQ 6000060 u.2.2.1 u.2.2.2 ka ∧ ∀ x, (∃ i, i < u.2.2.2 ∧ ka i = x) ↔ ∃ t, I t = true ∧ x = (100000 - dsN kd L pl tN q t) * 60 + t) (fun (u : (Nat → Int32) × (Nat → Int32) × (Nat → Int32) × Nat) => [ob (A 0) 10 [.ref (A 1), .ref (A 5), .ref (A 8), .ref (A 10), .ref (A 12), .ref (A 15), .ref (A 17), .ref (A 21), .ref (A 23), .ref (A 25)], ob (A 1) 8 [.ref (A 2), .ref (A 3), .ref (A 4), .int (nI n)], ia E (A 2) 60 ln, ia E (A 3) 480 pl, ia E (A 4) 9 u.1, ob (A 5) 9 [.ref (A 6), .ref (A 7), .int brk, .int chk], ia E (A 6) 3600 td, ia E (A 7) 3 br, ob (A 8) 3 [.ref (A 1), .ref (A 5), .ref (A 9), .int (nI kd)], ia E (A 9) 3600 u.2.1, ob (A 10) 5 [.ref (A 11), .int (nI k)], ia E (A 11) 60 mf, ob (A 15) 4 [.ref (A 16), .int (nI u.2.2.2)], ia E (A 16) 60 u.2.2.1]) := by
  refine CTv.of (by decide) (Nat.le_of_ble_eq_true rfl) (fun X F R => ?_)
  refine g_lv [0, 1] [(0, .ref (A 0)), (1, .int (nI q))] rfl ?_
  have hk := hM.1.1
  have hn60 := hK.1
  refine g_aload_n F 0 rfl dX10_rankFarFirst_0 ?_
  refine g_get F 10 0 5 inX10 rfl rfl (by decide) tw_fl_X10_49 rfl dX10_rankFarFirst_1 ?_
  refine g_cVv F (wr := [ob (A 0) 10 [.ref (A 1), .ref (A 5), .ref (A 8), .ref (A 10), .ref (A 12), .ref (A 15), .ref (A 17), .ref (A 21), .ref (A 23), .ref (A 25)], ob (A 1) 8 [.ref (A 2), .ref (A 3), .ref (A 4), .int (nI n)], ia E (A 2) 60 ln, ia E (A 3) 480 pl, ia E (A 4) 9 li, ob (A 5) 9 [.ref (A 6), .ref (A 7), .int brk, .int chk], ia E (A 6) 3600 td, ia E (A 7) 3 br, ob (A 8) 3 [.ref (A 1), .ref (A 5), .ref (A 9), .int (nI kd)], ia E (A 9) 3600 kn, ob (A 10) 5 [.ref (A 11), .int (nI k)], ia E (A 11) 60 mf]) [] (c_X4_clear E (A 15) (A 16) kf ks ) (gi_V tw_ml_X10_230 tw_im_X4_clear tw_se_X4_clear tw_in_X4 tw_co_X4_clear) 0 rfl (by decide) ⟨rfl, rfl, by decide, by decide, Nat.zero_le _, Nat.zero_le _⟩ 4 0 rfl rfl [12, 13] [0, 1, 2, 3, 4, 5, 6, 7, 8, 9, 10, 11] [0, 1, 2, 3, 4, 5, 6, 7, 8, 9, 10, 11, 12, 13] (fun u => [ob (A 0) 10 [.ref (A 1), .ref (A 5), .ref (A 8), .ref (A 10), .ref (A 12), .ref (A 15), .ref (A 17), .ref (A 21), .ref (A 23), .ref (A 25)], ob (A 1) 8 [.ref (A 2), .ref (A 3), .ref (A 4), .int (nI n)], ia E (A 2) 60 ln, ia E (A 3) 480 pl, ia E (A 4) 9 li, ob (A 5) 9 [.ref (A 6), .ref (A 7), .int brk, .int chk], ia E (A 6) 3600 td, ia E (A 7) 3 br, ob (A 8) 3 [.ref (A 1), .ref (A 5), .ref (A 9), .int (nI kd)], ia E (A 9) 3600 kn, ob (A 10) 5 [.ref (A 11), .int (nI k)], ia E (A 11) 60 mf, ob (A 15) 4 [.ref (A 16), .int (nI 0)], ia E (A 16) 60 kf]) rfl rfl (by decide) (fun _ => rfl) rfl (Nat.le_of_ble_eq_true rfl) dX10_rankFarFirst_4 (fun u hu_4 => ?_)
  refine g_iconst F (nI 0) (by decide) dX10_rankFarFirst_7 ?_
  refine g_istore_n F 2 [(0, .ref (A 0)), (1, .int (nI q)), (2, .int (nI 0))] [1, 2, 0] dX10_rankFarFirst_8 rfl (by decide) rfl ?_
  have lp_9 : ∀ (n_9 : Nat) (i : Nat) (l1 : Nat → Int32) (g1 : Nat → Int32) (f1 : Nat → Int32) (c1 : Nat) (ka : Nat → Nat), (i ≤ k) → (KN (dsN kd L pl tN) n g1) → (c1 ≤ i) → (SQ 6000060 f1 c1 ka) → (∀ x, (∃ j, j < c1 ∧ ka j = x) ↔ ∃ j, j < i ∧ x = (100000 - dsN kd L pl tN q (b j)) * 60 + (b j)) → k - i < n_9 → GW E X 0 0 [ob (A 0) 10 [.ref (A 1), .ref (A 5), .ref (A 8), .ref (A 10), .ref (A 12), .ref (A 15), .ref (A 17), .ref (A 21), .ref (A 23), .ref (A 25)], ob (A 1) 8 [.ref (A 2), .ref (A 3), .ref (A 4), .int (nI n)], ia E (A 2) 60 ln, ia E (A 3) 480 pl, ia E (A 4) 9 l1, ob (A 5) 9 [.ref (A 6), .ref (A 7), .int brk, .int chk], ia E (A 6) 3600 td, ia E (A 7) 3 br, ob (A 8) 3 [.ref (A 1), .ref (A 5), .ref (A 9), .int (nI kd)], ia E (A 9) 3600 g1, ob (A 10) 5 [.ref (A 11), .int (nI k)], ia E (A 11) 60 mf, ob (A 15) 4 [.ref (A 16), .int (nI c1)], ia E (A 16) 60 f1] [(0, .ref (A 0)), (1, .int (nI q)), (2, .int (nI i))] 9 [] := by
    intro n_9
    induction n_9 with
    | zero => intro i l1 g1 f1 c1 ka hi hkn hc1 hsq hset hm_9; exact absurd hm_9 (Nat.not_lt_zero _)
    | succ n_9 ih_9 =>
      intro i l1 g1 f1 c1 ka hi hkn hc1 hsq hset hm_9
      refine g_iload_n F 2 rfl dX10_rankFarFirst_9 ?_
      refine g_aload_n F 0 rfl dX10_rankFarFirst_10 ?_
      refine g_get F 10 0 3 inX10 rfl rfl (by decide) tw_fl_X10_35 rfl dX10_rankFarFirst_11 ?_
      refine g_rVi F (wr := [ob (A 0) 10 [.ref (A 1), .ref (A 5), .ref (A 8), .ref (A 10), .ref (A 12), .ref (A 15), .ref (A 17), .ref (A 21), .ref (A 23), .ref (A 25)], ob (A 1) 8 [.ref (A 2), .ref (A 3), .ref (A 4), .int (nI n)], ia E (A 2) 60 ln, ia E (A 3) 480 pl, ia E (A 4) 9 l1, ob (A 5) 9 [.ref (A 6), .ref (A 7), .int brk, .int chk], ia E (A 6) 3600 td, ia E (A 7) 3 br, ob (A 8) 3 [.ref (A 1), .ref (A 5), .ref (A 9), .int (nI kd)], ia E (A 9) 3600 g1, ob (A 15) 4 [.ref (A 16), .int (nI c1)], ia E (A 16) 60 f1]) [.int (nI i)] (c_X5_size E (A 10) (A 11) mf k ) (gi_V tw_ml_X10_154 tw_im_X5_size tw_se_X5_size tw_in_X5 tw_co_X5_size) 0 rfl (by decide) ⟨rfl, rfl, by decide, by decide, Nat.zero_le _, Nat.zero_le _⟩ 5 0 rfl rfl [10, 11] [0, 1, 2, 3, 4, 5, 6, 7, 8, 9, 12, 13] [0, 1, 2, 3, 4, 5, 6, 7, 8, 9, 12, 13, 10, 11] rfl rfl (by decide) rfl rfl (Nat.le_of_ble_eq_true rfl) dX10_rankFarFirst_14 ?_
      refine n_icmp_ge F 63 dX10_rankFarFirst_17 (by decide) (by omega) (by omega) (fun c_17 => ?_) (fun c_17 => ?_)
      · exact R ((l1, g1, f1, c1)) _ _ dX10_rankFarFirst_63 (by (try dsimp only); exact (⟨⟨hK.1, hK.2.1, hK.2.2.1, hK.2.2.2.1, hK.2.2.2.2.1, hK.2.2.2.2.2.1, hK.2.2.2.2.2.2.1, hkn⟩, ka, hsq, fun x => (hset x).trans ⟨fun ⟨j, hj, e⟩ => ⟨b j, hM.2.1.at (by omega), e⟩, fun ⟨t, ht, e⟩ => by
            obtain ⟨j, hj, rfl⟩ := (hM.2.1 t).mp ht
            exact ⟨j, by omega, e⟩⟩⟩))
      · refine g_aload_n F 0 rfl dX10_rankFarFirst_20 ?_
        refine g_get F 10 0 3 inX10 rfl rfl (by decide) tw_fl_X10_35 rfl dX10_rankFarFirst_21 ?_
        refine g_iload_n F 2 rfl dX10_rankFarFirst_24 ?_
        refine g_rVi F (wr := [ob (A 0) 10 [.ref (A 1), .ref (A 5), .ref (A 8), .ref (A 10), .ref (A 12), .ref (A 15), .ref (A 17), .ref (A 21), .ref (A 23), .ref (A 25)], ob (A 1) 8 [.ref (A 2), .ref (A 3), .ref (A 4), .int (nI n)], ia E (A 2) 60 ln, ia E (A 3) 480 pl, ia E (A 4) 9 l1, ob (A 5) 9 [.ref (A 6), .ref (A 7), .int brk, .int chk], ia E (A 6) 3600 td, ia E (A 7) 3 br, ob (A 8) 3 [.ref (A 1), .ref (A 5), .ref (A 9), .int (nI kd)], ia E (A 9) 3600 g1, ob (A 15) 4 [.ref (A 16), .int (nI c1)], ia E (A 16) 60 f1]) [] (c_X5_at E (A 10) (A 11) mf k b i (fun i hi => (hM.1.2.1 i hi).1) (by omega) (by omega)) (gi_V tw_ml_X10_200 tw_im_X5_at tw_se_X5_at tw_in_X5 tw_co_X5_at) 1 rfl (by decide) ⟨rfl, rfl, by decide, by decide, Nat.zero_le _, Nat.zero_le _⟩ 5 0 rfl rfl [10, 11] [0, 1, 2, 3, 4, 5, 6, 7, 8, 9, 12, 13] [0, 1, 2, 3, 4, 5, 6, 7, 8, 9, 12, 13, 10, 11] rfl rfl (by decide) rfl rfl (Nat.le_of_ble_eq_true rfl) dX10_rankFarFirst_25 ?_
        refine g_istore_n F 3 [(0, .ref (A 0)), (1, .int (nI q)), (2, .int (nI i)), (3, .int (nI (b i)))] [1, 2, 3, 0] dX10_rankFarFirst_28 rfl (by decide) rfl ?_
        refine g_ldc F tw_cn_X10_106 dX10_rankFarFirst_29 ?_
        refine g_top (nI 100000) (by decide) ?_
        refine g_aload_n F 0 rfl dX10_rankFarFirst_31 ?_
        refine g_get F 10 0 2 inX10 rfl rfl (by decide) tw_fl_X10_28 rfl dX10_rankFarFirst_32 ?_
        refine g_iload_n F 1 rfl dX10_rankFarFirst_35 ?_
        refine g_iload_n F 3 rfl dX10_rankFarFirst_36 ?_
        refine g_cVi F (wr := [ob (A 0) 10 [.ref (A 1), .ref (A 5), .ref (A 8), .ref (A 10), .ref (A 12), .ref (A 15), .ref (A 17), .ref (A 21), .ref (A 23), .ref (A 25)], ob (A 10) 5 [.ref (A 11), .int (nI k)], ia E (A 11) 60 mf, ob (A 15) 4 [.ref (A 16), .int (nI c1)], ia E (A 16) 60 f1]) [.int (nI 100000)] (c_X3_between E (A 8) (A 9) g1 kd (A 1) (A 2) (A 3) (A 4) ln pl l1 n (A 5) (A 6) (A 7) td br brk chk L tN q (b i) (hK.2.2.2.1) (hK.2.2.1) (hK.2.2.2.2.1) (hK.2.1) (hK.1) (hq) (hM.lt (by omega)) (hkn) (ds_sym hK.2.2.2.2.2.1 (Nat.lt_of_lt_of_le (hq) hK.1) (Nat.lt_of_lt_of_le (hM.lt (by omega)) hK.1))) (gi_V tw_ml_X10_117 tw_im_X3_between tw_se_X3_between tw_in_X3 tw_co_X3_between) 2 rfl (by decide) ⟨rfl, rfl, by decide, by decide, Nat.zero_le _, Nat.zero_le _⟩ 3 0 rfl rfl [8, 9, 1, 2, 3, 4, 5, 6, 7] [0, 10, 11, 12, 13] [0, 7, 8, 9, 10, 11, 12, 13, 5, 6, 1, 2, 3, 4] (fun u => [ob (A 0) 10 [.ref (A 1), .ref (A 5), .ref (A 8), .ref (A 10), .ref (A 12), .ref (A 15), .ref (A 17), .ref (A 21), .ref (A 23), .ref (A 25)], ob (A 1) 8 [.ref (A 2), .ref (A 3), .ref (A 4), .int (nI n)], ia E (A 2) 60 ln, ia E (A 3) 480 pl, ia E (A 4) 9 u.1, ob (A 5) 9 [.ref (A 6), .ref (A 7), .int brk, .int chk], ia E (A 6) 3600 td, ia E (A 7) 3 br, ob (A 8) 3 [.ref (A 1), .ref (A 5), .ref (A 9), .int (nI kd)], ia E (A 9) 3600 u.2, ob (A 10) 5 [.ref (A 11), .int (nI k)], ia E (A 11) 60 mf, ob (A 15) 4 [.ref (A 16), .int (nI c1)], ia E (A 16) 60 f1]) rfl rfl (by decide) (fun _ => rfl) rfl (Nat.le_of_ble_eq_true rfl) dX10_rankFarFirst_37 (fun r_37 u hu_37 => ?_)
        obtain ⟨li_37, kn_37⟩ := u
        refine g_ws [ob (A 0) 10 [.ref (A 1), .ref (A 5), .ref (A 8), .ref (A 10), .ref (A 12), .ref (A 15), .ref (A 17), .ref (A 21), .ref (A 23), .ref (A 25)], ob (A 1) 8 [.ref (A 2), .ref (A 3), .ref (A 4), .int (nI n)], ia E (A 2) 60 ln, ia E (A 3) 480 pl, ia E (A 4) 9 li_37, ob (A 5) 9 [.ref (A 6), .ref (A 7), .int brk, .int chk], ia E (A 6) 3600 td, ia E (A 7) 3 br, ob (A 8) 3 [.ref (A 1), .ref (A 5), .ref (A 9), .int (nI kd)], ia E (A 9) 3600 kn_37, ob (A 10) 5 [.ref (A 11), .int (nI k)], ia E (A 11) 60 mf, ob (A 15) 4 [.ref (A 16), .int (nI c1)], ia E (A 16) 60 f1] rfl ?_
        dsimp only at hu_37
        obtain ⟨rfl, hkn3, hkn4, hkn5⟩ := hu_37
        have hdl := ds_le (kd := kd) (a := q) (b := b i) hK.2.2.1 hK.2.2.2.1 hK.2.2.2.2.1 (by omega) (hM.1.2.1 i (by omega)).2
        have hb9 := (hM.1.2.1 i (by omega)).2
        refine n_sub F (by omega) dX10_rankFarFirst_40 ?_
        refine g_istore F 4 [(0, .ref (A 0)), (1, .int (nI q)), (2, .int (nI i)), (3, .int (nI (b i))), (4, .int (nI (100000 - (dsN kd L pl tN q (b i)))))] [1, 2, 3, 4, 0] dX10_rankFarFirst_41 (by decide) rfl ?_
        refine g_aload_n F 0 rfl dX10_rankFarFirst_43 ?_
        refine g_get F 10 0 5 inX10 rfl rfl (by decide) tw_fl_X10_49 rfl dX10_rankFarFirst_44 ?_
        refine g_iload F 4 rfl dX10_rankFarFirst_47 ?_
        refine g_bipush F (nI 60) (by decide) dX10_rankFarFirst_49 ?_
        refine n_mul F dX10_rankFarFirst_51 ?_
        refine g_iload_n F 3 rfl dX10_rankFarFirst_52 ?_
        refine n_add F dX10_rankFarFirst_53 ?_
        refine g_cVv F (wr := [ob (A 0) 10 [.ref (A 1), .ref (A 5), .ref (A 8), .ref (A 10), .ref (A 12), .ref (A 15), .ref (A 17), .ref (A 21), .ref (A 23), .ref (A 25)], ob (A 1) 8 [.ref (A 2), .ref (A 3), .ref (A 4), .int (nI n)], ia E (A 2) 60 ln, ia E (A 3) 480 pl, ia E (A 4) 9 li_37, ob (A 5) 9 [.ref (A 6), .ref (A 7), .int brk, .int chk], ia E (A 6) 3600 td, ia E (A 7) 3 br, ob (A 8) 3 [.ref (A 1), .ref (A 5), .ref (A 9), .int (nI kd)], ia E (A 9) 3600 kn_37, ob (A 10) 5 [.ref (A 11), .int (nI k)], ia E (A 11) 60 mf]) [] (c_X4_insert E (A 15) (A 16) f1 c1 6000060 ka (((100000 - (dsN kd L pl tN q (b i))) * 60) + (b i)) (by decide) (by omega) (hsq) (fun j hj e => by
            obtain ⟨j2, hj2, e2⟩ := (hset _).mp ⟨j, hj, e⟩
            have hb8 := (hM.1.2.1 j2 (by omega)).2
            have := mb_inj hM.1 (show i < k by omega) (show j2 < k by omega) (by omega)
            omega) (by omega)) (gi_V tw_ml_X10_231 tw_im_X4_insert tw_se_X4_insert tw_in_X4 tw_co_X4_insert) 1 rfl (by decide) ⟨rfl, rfl, by decide, by decide, Nat.zero_le _, Nat.zero_le _⟩ 4 0 rfl rfl [12, 13] [0, 1, 2, 3, 4, 5, 6, 7, 8, 9, 10, 11] [0, 1, 2, 3, 4, 5, 6, 7, 8, 9, 10, 11, 12, 13] (fun u => [ob (A 0) 10 [.ref (A 1), .ref (A 5), .ref (A 8), .ref (A 10), .ref (A 12), .ref (A 15), .ref (A 17), .ref (A 21), .ref (A 23), .ref (A 25)], ob (A 1) 8 [.ref (A 2), .ref (A 3), .ref (A 4), .int (nI n)], ia E (A 2) 60 ln, ia E (A 3) 480 pl, ia E (A 4) 9 li_37, ob (A 5) 9 [.ref (A 6), .ref (A 7), .int brk, .int chk], ia E (A 6) 3600 td, ia E (A 7) 3 br, ob (A 8) 3 [.ref (A 1), .ref (A 5), .ref (A 9), .int (nI kd)], ia E (A 9) 3600 kn_37, ob (A 10) 5 [.ref (A 11), .int (nI k)], ia E (A 11) 60 mf, ob (A 15) 4 [.ref (A 16), .int (nI (c1 + 1))], ia E (A 16) 60 u]) rfl rfl (by decide) (fun _ => rfl) rfl (Nat.le_of_ble_eq_true rfl) dX10_rankFarFirst_54 (fun u hu_54 => ?_)
        revert hu_54; revert u; intro f2_54 hu_54
        obtain ⟨ka2, hsq2, hset2⟩ := hu_54
        refine g_iinc F (nI (i + 1)) 2 2 [(0, .ref (A 0)), (1, .int (nI q)), (2, .int (nI (i + 1))), (3, .int (nI (b i))), (4, .int (nI (100000 - (dsN kd L pl tN q (b i)))))] [1, 2, 0, 3, 4] dX10_rankFarFirst_57 rfl (n_inc i) (by decide) rfl ?_
        refine g_goto F 9 dX10_rankFarFirst_60 (by decide) ?_
        refine g_lv [0, 1, 2] [(0, .ref (A 0)), (1, .int (nI q)), (2, .int (nI (i + 1)))] rfl ?_
        exact ih_9 (i + 1) li_37 kn_37 f2_54 (c1 + 1) ka2 (by omega) (hkn3) (by omega) (hsq2) (fun x => (hset2 x).trans ⟨fun z => z.elim (fun z => ⟨i, by omega, z⟩) (fun z => by
            obtain ⟨j, hj, e⟩ := (hset x).mp z
            exact ⟨j, by omega, e⟩), fun ⟨j, hj, e⟩ => (Nat.lt_or_ge j i).elim (fun z => Or.inr ((hset x).mpr ⟨j, z, e⟩)) (fun z => by
            rw [show j = i by omega] at e
            exact Or.inl e)⟩) (by omega)
  exact lp_9 _ 0 li kn kf 0 (fun _ => 0) (by omega) (hK.2.2.2.2.2.2.2) (by omega) (⟨by omega, fun i hi => absurd hi (Nat.not_lt_zero i), fun i j _ hj => absurd hj (Nat.not_lt_zero j)⟩) (fun x => ⟨fun ⟨j, hj, _⟩ => absurd hj (Nat.not_lt_zero j), fun ⟨j, hj, _⟩ => absurd hj (Nat.not_lt_zero j)⟩) (Nat.lt_succ_self _)

set_option maxHeartbeats 4000000 in
set_option maxRecDepth 100000 in
theorem c_X10_takeRanked (E : Ev) (A : Nat → Nat) (ln : Nat → Int32) (pl : Nat → Int32) (li : Nat → Int32) (n : Nat) (td : Nat → Int32) (br : Nat → Int32) (brk : Int32) (chk : Int32) (kn : Nat → Int32) (kd : Nat) (rf : Nat → Int32) (rg : Nat → Int32) (rk : Nat) (kf : Nat → Int32) (c : Nat) (L : Nat → Nat) (tN : Nat → Nat) (ka : Nat → Nat) (q : Nat) (m0 : Nat) (hK : NBK n kd L ln pl tN td br brk chk kn) (hq : q < n) (hm0 : m0 ≤ 60) (hsq : SQ 6000060 kf c ka) (hka : ∀ i, i < c → ka i % 60 < n) : CTi E yX10_takeRanked (wq yX10_takeRanked cX10_takeRanked 6 (some .int)) (rmk 5 113) [.ref (A 0), .int (nI q), .int (nI m0)] [ob (A 0) 10 [.ref (A 1), .ref (A 5), .ref (A 8), .ref (A 10), .ref (A 12), .ref (A 15), .ref (A 17), .ref (A 21), .ref (A 23), .ref (A 25)], ob (A 1) 8 [.ref (A 2), .ref (A 3), .ref (A 4), .int (nI n)], ia E (A 2) 60 ln, ia E (A 3) 480 pl, ia E (A 4) 9 li, ob (A 5) 9 [.ref (A 6), .ref (A 7), .int brk, .int chk], ia E (A 6) 3600 td, ia E (A 7) 3 br, ob (A 8) 3 [.ref (A 1), .ref (A 5), .ref (A 9), .int (nI kd)], ia E (A 9) 3600 kn, ob (A 12) 7 [.ref (A 13), .ref (A 14), .int (nI rk)], ia E (A 13) 60 rf, ia E (A 14) 60 rg, ob (A 15) 4 [.ref (A 16), .int (nI c)], ia E (A 16) 60 kf] (fun (r : Int32) (u : (Nat → Int32) × (Nat → Int32) × (Nat → Int32) × (Nat → Int32)) => r = nI (Nat.min m0 c) ∧ NBK n kd L ln pl tN td br brk chk u.2.1 ∧ ∀ i, i < Nat.min m0 c → u.2.2.1 i = nI (ka i % 60) ∧ u.2.2.2 i = nI (dsN kd L pl tN q (ka i % 60))) (fun (u : (Nat → Int32) × (Nat → Int32) × (Nat → Int32) × (Nat → Int32)) => [ob (A 0) 10 [.ref (A 1), .ref (A 5), .ref (A 8), .ref (A 10), .ref (A 12), .ref (A 15), .ref (A 17), .ref (A 21), .ref (A 23), .ref (A 25)], ob (A 1) 8 [.ref (A 2), .ref (A 3), .ref (A 4), .int (nI n)], ia E (A 2) 60 ln, ia E (A 3) 480 pl, ia E (A 4) 9 u.1, ob (A 5) 9 [.ref (A 6), .ref (A 7), .int brk, .int chk], ia E (A 6) 3600 td, ia E (A 7) 3 br, ob (A 8) 3 [.ref (A 1), .ref (A 5), .ref (A 9), .int (nI kd)], ia E (A 9) 3600 u.2.1, ob (A 12) 7 [.ref (A 13), .ref (A 14), .int (nI (Nat.min m0 c))], ia E (A 13) 60 u.2.2.1, ia E (A 14) 60 u.2.2.2, ob (A 15) 4 [.ref (A 16), .int (nI c)], ia E (A 16) 60 kf]) := by
  refine CTi.of (by decide) (Nat.le_of_ble_eq_true rfl) (fun X F R => ?_)
  refine g_lv [0, 1, 2] [(0, .ref (A 0)), (1, .int (nI q)), (2, .int (nI m0))] rfl ?_
  have hn60 := hK.1
  have hc60 := hsq.1
  have hmn := nmin_cases m0 c
  refine g_iload_n F 2 rfl dX10_takeRanked_0 ?_
  refine g_aload_n F 0 rfl dX10_takeRanked_1 ?_
  refine g_get F 10 0 5 inX10 rfl rfl (by decide) tw_fl_X10_49 rfl dX10_takeRanked_2 ?_
  refine g_rVi F (wr := [ob (A 0) 10 [.ref (A 1), .ref (A 5), .ref (A 8), .ref (A 10), .ref (A 12), .ref (A 15), .ref (A 17), .ref (A 21), .ref (A 23), .ref (A 25)], ob (A 1) 8 [.ref (A 2), .ref (A 3), .ref (A 4), .int (nI n)], ia E (A 2) 60 ln, ia E (A 3) 480 pl, ia E (A 4) 9 li, ob (A 5) 9 [.ref (A 6), .ref (A 7), .int brk, .int chk], ia E (A 6) 3600 td, ia E (A 7) 3 br, ob (A 8) 3 [.ref (A 1), .ref (A 5), .ref (A 9), .int (nI kd)], ia E (A 9) 3600 kn, ob (A 12) 7 [.ref (A 13), .ref (A 14), .int (nI rk)], ia E (A 13) 60 rf, ia E (A 14) 60 rg]) [.int (nI m0)] (c_X4_size E (A 15) (A 16) kf c ) (gi_V tw_ml_X10_180 tw_im_X4_size tw_se_X4_size tw_in_X4 tw_co_X4_size) 0 rfl (by decide) ⟨rfl, rfl, by decide, by decide, Nat.zero_le _, Nat.zero_le _⟩ 4 0 rfl rfl [13, 14] [0, 1, 2, 3, 4, 5, 6, 7, 8, 9, 10, 11, 12] [0, 1, 2, 3, 4, 5, 6, 7, 8, 9, 10, 11, 12, 13, 14] rfl rfl (by decide) rfl rfl (Nat.le_of_ble_eq_true rfl) dX10_takeRanked_5 ?_
  refine g_mmin F tw_ml_X10_164 (by decide) (Nat.le_of_ble_eq_true rfl) (Nat.zero_le _) (Nat.zero_le _) dX10_takeRanked_8 ?_
  refine g_top _ (n_min m0 c (by omega) (by omega)) ?_
  refine g_istore_n F 3 [(0, .ref (A 0)), (1, .int (nI q)), (2, .int (nI m0)), (3, .int (nI (Nat.min m0 c)))] [1, 2, 3, 0] dX10_takeRanked_11 rfl (by decide) rfl ?_
  refine g_aload_n F 0 rfl dX10_takeRanked_12 ?_
  refine g_get F 10 0 4 inX10 rfl rfl (by decide) tw_fl_X10_42 rfl dX10_takeRanked_13 ?_
  refine g_cVv F (wr := [ob (A 0) 10 [.ref (A 1), .ref (A 5), .ref (A 8), .ref (A 10), .ref (A 12), .ref (A 15), .ref (A 17), .ref (A 21), .ref (A 23), .ref (A 25)], ob (A 1) 8 [.ref (A 2), .ref (A 3), .ref (A 4), .int (nI n)], ia E (A 2) 60 ln, ia E (A 3) 480 pl, ia E (A 4) 9 li, ob (A 5) 9 [.ref (A 6), .ref (A 7), .int brk, .int chk], ia E (A 6) 3600 td, ia E (A 7) 3 br, ob (A 8) 3 [.ref (A 1), .ref (A 5), .ref (A 9), .int (nI kd)], ia E (A 9) 3600 kn, ob (A 15) 4 [.ref (A 16), .int (nI c)], ia E (A 16) 60 kf]) [] (c_X7_clear E (A 12) (A 13) (A 14) rf rg rk ) (gi_V tw_ml_X10_197 tw_im_X7_clear tw_se_X7_clear tw_in_X7 tw_co_X7_clear) 0 rfl (by decide) ⟨rfl, rfl, by decide, by decide, Nat.zero_le _, Nat.zero_le _⟩ 7 0 rfl rfl [10, 11, 12] [0, 1, 2, 3, 4, 5, 6, 7, 8, 9, 13, 14] [0, 1, 2, 3, 4, 5, 6, 7, 8, 9, 12, 13, 14, 10, 11] (fun u => [ob (A 0) 10 [.ref (A 1), .ref (A 5), .ref (A 8), .ref (A 10), .ref (A 12), .ref (A 15), .ref (A 17), .ref (A 21), .ref (A 23), .ref (A 25)], ob (A 1) 8 [.ref (A 2), .ref (A 3), .ref (A 4), .int (nI n)], ia E (A 2) 60 ln, ia E (A 3) 480 pl, ia E (A 4) 9 li, ob (A 5) 9 [.ref (A 6), .ref (A 7), .int brk, .int chk], ia E (A 6) 3600 td, ia E (A 7) 3 br, ob (A 8) 3 [.ref (A 1), .ref (A 5), .ref (A 9), .int (nI kd)], ia E (A 9) 3600 kn, ob (A 12) 7 [.ref (A 13), .ref (A 14), .int (nI 0)], ia E (A 13) 60 rf, ia E (A 14) 60 rg, ob (A 15) 4 [.ref (A 16), .int (nI c)], ia E (A 16) 60 kf]) rfl rfl (by decide) (fun _ => rfl) rfl (Nat.le_of_ble_eq_true rfl) dX10_takeRanked_16 (fun u hu_16 => ?_)
  refine g_iconst F (nI 0) (by decide) dX10_takeRanked_19 ?_
  refine g_istore F 4 [(0, .ref (A 0)), (1, .int (nI q)), (2, .int (nI m0)), (3, .int (nI (Nat.min m0 c))), (4, .int (nI 0))] [1, 2, 3, 4, 0] dX10_takeRanked_20 (by decide) rfl ?_
  have lp_22 : ∀ (n_22 : Nat) (i : Nat) (l1 : Nat → Int32) (g1 : Nat → Int32) (r1 : Nat → Int32) (r2 : Nat → Int32), (i ≤ Nat.min m0 c) → (KN (dsN kd L pl tN) n g1) → (∀ j, j < i → r1 j = nI (ka j % 60) ∧ r2 j = nI (dsN kd L pl tN q (ka j % 60))) → Nat.min m0 c - i < n_22 → GW E X 0 0 [ob (A 0) 10 [.ref (A 1), .ref (A 5), .ref (A 8), .ref (A 10), .ref (A 12), .ref (A 15), .ref (A 17), .ref (A 21), .ref (A 23), .ref (A 25)], ob (A 1) 8 [.ref (A 2), .ref (A 3), .ref (A 4), .int (nI n)], ia E (A 2) 60 ln, ia E (A 3) 480 pl, ia E (A 4) 9 l1, ob (A 5) 9 [.ref (A 6), .ref (A 7), .int brk, .int chk], ia E (A 6) 3600 td, ia E (A 7) 3 br, ob (A 8) 3 [.ref (A 1), .ref (A 5), .ref (A 9), .int (nI kd)], ia E (A 9) 3600 g1, ob (A 12) 7 [.ref (A 13), .ref (A 14), .int (nI i)], ia E (A 13) 60 r1, ia E (A 14) 60 r2, ob (A 15) 4 [.ref (A 16), .int (nI c)], ia E (A 16) 60 kf] [(0, .ref (A 0)), (1, .int (nI q)), (2, .int (nI m0)), (3, .int (nI (Nat.min m0 c))), (4, .int (nI i))] 22 [] := by
    intro n_22
    induction n_22 with
    | zero => intro i l1 g1 r1 r2 hi hkn hr hm_22; exact absurd hm_22 (Nat.not_lt_zero _)
    | succ n_22 ih_22 =>
      intro i l1 g1 r1 r2 hi hkn hr hm_22
      refine g_iload F 4 rfl dX10_takeRanked_22 ?_
      refine g_iload_n F 3 rfl dX10_takeRanked_24 ?_
      refine n_icmp_ge F 67 dX10_takeRanked_25 (by decide) (by omega) (by omega) (fun c_25 => ?_) (fun c_25 => ?_)
      · obtain rfl : i = Nat.min m0 c := by omega
        refine g_iload_n F 3 rfl dX10_takeRanked_67 ?_
        exact R _ ((l1, g1, r1, r2)) _ _ dX10_takeRanked_68 (by (try dsimp only); exact (⟨rfl, ⟨hK.1, hK.2.1, hK.2.2.1, hK.2.2.2.1, hK.2.2.2.2.1, hK.2.2.2.2.2.1, hK.2.2.2.2.2.2.1, hkn⟩, hr⟩))
      · refine g_aload_n F 0 rfl dX10_takeRanked_28 ?_
        refine g_get F 10 0 5 inX10 rfl rfl (by decide) tw_fl_X10_49 rfl dX10_takeRanked_29 ?_
        refine g_iload F 4 rfl dX10_takeRanked_32 ?_
        refine g_rVi F (wr := [ob (A 0) 10 [.ref (A 1), .ref (A 5), .ref (A 8), .ref (A 10), .ref (A 12), .ref (A 15), .ref (A 17), .ref (A 21), .ref (A 23), .ref (A 25)], ob (A 1) 8 [.ref (A 2), .ref (A 3), .ref (A 4), .int (nI n)], ia E (A 2) 60 ln, ia E (A 3) 480 pl, ia E (A 4) 9 l1, ob (A 5) 9 [.ref (A 6), .ref (A 7), .int brk, .int chk], ia E (A 6) 3600 td, ia E (A 7) 3 br, ob (A 8) 3 [.ref (A 1), .ref (A 5), .ref (A 9), .int (nI kd)], ia E (A 9) 3600 g1, ob (A 12) 7 [.ref (A 13), .ref (A 14), .int (nI i)], ia E (A 13) 60 r1, ia E (A 14) 60 r2]) [] (c_X4_at E (A 15) (A 16) kf c ka i (fun i hi => (hsq.2.1 i hi).1) (by omega) (by omega)) (gi_V tw_ml_X10_185 tw_im_X4_at tw_se_X4_at tw_in_X4 tw_co_X4_at) 1 rfl (by decide) ⟨rfl, rfl, by decide, by decide, Nat.zero_le _, Nat.zero_le _⟩ 4 0 rfl rfl [13, 14] [0, 1, 2, 3, 4, 5, 6, 7, 8, 9, 10, 11, 12] [0, 1, 2, 3, 4, 5, 6, 7, 8, 9, 10, 11, 12, 13, 14] rfl rfl (by decide) rfl rfl (Nat.le_of_ble_eq_true rfl) dX10_takeRanked_34 ?_
        refine g_bipush F (nI 60) (by decide) dX10_takeRanked_37 ?_
        refine n_rem F (by have := (hsq.2.1 i (by omega)).2; omega) (by decide) (by decide) dX10_takeRanked_39 ?_
        refine g_istore F 5 [(0, .ref (A 0)), (1, .int (nI q)), (2, .int (nI m0)), (3, .int (nI (Nat.min m0 c))), (4, .int (nI i)), (5, .int (nI ((ka i) % 60)))] [1, 2, 3, 4, 5, 0] dX10_takeRanked_40 (by decide) rfl ?_
        refine g_aload_n F 0 rfl dX10_takeRanked_42 ?_
        refine g_get F 10 0 4 inX10 rfl rfl (by decide) tw_fl_X10_42 rfl dX10_takeRanked_43 ?_
        refine g_iload F 5 rfl dX10_takeRanked_46 ?_
        refine g_aload_n F 0 rfl dX10_takeRanked_48 ?_
        refine g_get F 10 0 2 inX10 rfl rfl (by decide) tw_fl_X10_28 rfl dX10_takeRanked_49 ?_
        refine g_iload_n F 1 rfl dX10_takeRanked_52 ?_
        refine g_iload F 5 rfl dX10_takeRanked_53 ?_
        refine g_cVi F (wr := [ob (A 0) 10 [.ref (A 1), .ref (A 5), .ref (A 8), .ref (A 10), .ref (A 12), .ref (A 15), .ref (A 17), .ref (A 21), .ref (A 23), .ref (A 25)], ob (A 12) 7 [.ref (A 13), .ref (A 14), .int (nI i)], ia E (A 13) 60 r1, ia E (A 14) 60 r2, ob (A 15) 4 [.ref (A 16), .int (nI c)], ia E (A 16) 60 kf]) [.int (nI ((ka i) % 60)), .ref (A 12)] (c_X3_between E (A 8) (A 9) g1 kd (A 1) (A 2) (A 3) (A 4) ln pl l1 n (A 5) (A 6) (A 7) td br brk chk L tN q ((ka i) % 60) (hK.2.2.2.1) (hK.2.2.1) (hK.2.2.2.2.1) (hK.2.1) (hK.1) (hq) (hka i (by omega)) (hkn) (ds_sym hK.2.2.2.2.2.1 (Nat.lt_of_lt_of_le (hq) hK.1) (Nat.lt_of_lt_of_le (hka i (by omega)) hK.1))) (gi_V tw_ml_X10_117 tw_im_X3_between tw_se_X3_between tw_in_X3 tw_co_X3_between) 2 rfl (by decide) ⟨rfl, rfl, by decide, by decide, Nat.zero_le _, Nat.zero_le _⟩ 3 0 rfl rfl [8, 9, 1, 2, 3, 4, 5, 6, 7] [0, 10, 11, 12, 13, 14] [0, 8, 9, 10, 11, 12, 13, 14, 6, 7, 1, 2, 3, 4, 5] (fun u => [ob (A 0) 10 [.ref (A 1), .ref (A 5), .ref (A 8), .ref (A 10), .ref (A 12), .ref (A 15), .ref (A 17), .ref (A 21), .ref (A 23), .ref (A 25)], ob (A 1) 8 [.ref (A 2), .ref (A 3), .ref (A 4), .int (nI n)], ia E (A 2) 60 ln, ia E (A 3) 480 pl, ia E (A 4) 9 u.1, ob (A 5) 9 [.ref (A 6), .ref (A 7), .int brk, .int chk], ia E (A 6) 3600 td, ia E (A 7) 3 br, ob (A 8) 3 [.ref (A 1), .ref (A 5), .ref (A 9), .int (nI kd)], ia E (A 9) 3600 u.2, ob (A 12) 7 [.ref (A 13), .ref (A 14), .int (nI i)], ia E (A 13) 60 r1, ia E (A 14) 60 r2, ob (A 15) 4 [.ref (A 16), .int (nI c)], ia E (A 16) 60 kf]) rfl rfl (by decide) (fun _ => rfl) rfl (Nat.le_of_ble_eq_true rfl) dX10_takeRanked_55 (fun r_55 u hu_55 => ?_)
        obtain ⟨li_55, kn_55⟩ := u
        refine g_ws [ob (A 0) 10 [.ref (A 1), .ref (A 5), .ref (A 8), .ref (A 10), .ref (A 12), .ref (A 15), .ref (A 17), .ref (A 21), .ref (A 23), .ref (A 25)], ob (A 1) 8 [.ref (A 2), .ref (A 3), .ref (A 4), .int (nI n)], ia E (A 2) 60 ln, ia E (A 3) 480 pl, ia E (A 4) 9 li_55, ob (A 5) 9 [.ref (A 6), .ref (A 7), .int brk, .int chk], ia E (A 6) 3600 td, ia E (A 7) 3 br, ob (A 8) 3 [.ref (A 1), .ref (A 5), .ref (A 9), .int (nI kd)], ia E (A 9) 3600 kn_55, ob (A 12) 7 [.ref (A 13), .ref (A 14), .int (nI i)], ia E (A 13) 60 r1, ia E (A 14) 60 r2, ob (A 15) 4 [.ref (A 16), .int (nI c)], ia E (A 16) 60 kf] rfl ?_
        dsimp only at hu_55
        obtain ⟨rfl, hkn3, hkn4, hkn5⟩ := hu_55
        refine g_cVv F (wr := [ob (A 0) 10 [.ref (A 1), .ref (A 5), .ref (A 8), .ref (A 10), .ref (A 12), .ref (A 15), .ref (A 17), .ref (A 21), .ref (A 23), .ref (A 25)], ob (A 1) 8 [.ref (A 2), .ref (A 3), .ref (A 4), .int (nI n)], ia E (A 2) 60 ln, ia E (A 3) 480 pl, ia E (A 4) 9 li_55, ob (A 5) 9 [.ref (A 6), .ref (A 7), .int brk, .int chk], ia E (A 6) 3600 td, ia E (A 7) 3 br, ob (A 8) 3 [.ref (A 1), .ref (A 5), .ref (A 9), .int (nI kd)], ia E (A 9) 3600 kn_55, ob (A 15) 4 [.ref (A 16), .int (nI c)], ia E (A 16) 60 kf]) [] (c_X7_append E (A 12) (A 13) (A 14) r1 r2 i (nI ((ka i) % 60)) (nI (dsN kd L pl tN q (ka i % 60))) (by omega)) (gi_V tw_ml_X10_205 tw_im_X7_append tw_se_X7_append tw_in_X7 tw_co_X7_append) 2 rfl (by decide) ⟨rfl, rfl, by decide, by decide, Nat.zero_le _, Nat.zero_le _⟩ 7 0 rfl rfl [10, 11, 12] [0, 1, 2, 3, 4, 5, 6, 7, 8, 9, 13, 14] [0, 1, 2, 3, 4, 5, 6, 7, 8, 9, 12, 13, 14, 10, 11] (fun u => [ob (A 0) 10 [.ref (A 1), .ref (A 5), .ref (A 8), .ref (A 10), .ref (A 12), .ref (A 15), .ref (A 17), .ref (A 21), .ref (A 23), .ref (A 25)], ob (A 1) 8 [.ref (A 2), .ref (A 3), .ref (A 4), .int (nI n)], ia E (A 2) 60 ln, ia E (A 3) 480 pl, ia E (A 4) 9 li_55, ob (A 5) 9 [.ref (A 6), .ref (A 7), .int brk, .int chk], ia E (A 6) 3600 td, ia E (A 7) 3 br, ob (A 8) 3 [.ref (A 1), .ref (A 5), .ref (A 9), .int (nI kd)], ia E (A 9) 3600 kn_55, ob (A 12) 7 [.ref (A 13), .ref (A 14), .int (nI (i + 1))], ia E (A 13) 60 (upd r1 i (nI ((ka i) % 60))), ia E (A 14) 60 (upd r2 i (nI (dsN kd L pl tN q (ka i % 60)))), ob (A 15) 4 [.ref (A 16), .int (nI c)], ia E (A 16) 60 kf]) rfl rfl (by decide) (fun _ => rfl) rfl (Nat.le_of_ble_eq_true rfl) dX10_takeRanked_58 (fun u hu_58 => ?_)
        refine g_iinc F (nI (i + 1)) 4 4 [(0, .ref (A 0)), (1, .int (nI q)), (2, .int (nI m0)), (3, .int (nI (Nat.min m0 c))), (4, .int (nI (i + 1))), (5, .int (nI ((ka i) % 60)))] [1, 2, 3, 4, 0, 5] dX10_takeRanked_61 rfl (n_inc i) (by decide) rfl ?_
        refine g_goto F 22 dX10_takeRanked_64 (by decide) ?_
        refine g_lv [0, 1, 2, 3, 4] [(0, .ref (A 0)), (1, .int (nI q)), (2, .int (nI m0)), (3, .int (nI (Nat.min m0 c))), (4, .int (nI (i + 1)))] rfl ?_
        exact ih_22 (i + 1) li_55 kn_55 (upd r1 i (nI ((ka i) % 60))) (upd r2 i (nI (dsN kd L pl tN q (ka i % 60)))) (by omega) (hkn3) (lt_s (fun j hj => ⟨(pk_un (by omega)).trans (hr j hj).1, (pk_un (by omega)).trans (hr j hj).2⟩) ⟨pk_us, pk_us⟩) (by omega)
  exact lp_22 _ 0 li kn rf rg (by omega) (hK.2.2.2.2.2.2.2) (fun j hj => absurd hj (Nat.not_lt_zero j)) (Nat.lt_succ_self _)
