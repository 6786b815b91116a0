theorem g_copy {E : Ev} {X : Cx} {cc : ByteArray} {own : String} {rm : Room} {nL0 k n pc : Nat} {ws : va_W} {lv : List (Nat × Value)} {st : List Value} (F : FX E X cc own rm nL0) {a0 a1 N0 N1 sp dp nn index : Nat} {f g : Nat → Int32} (q0 q1 : Nat) (ws' : va_W) (hq0 : ws[q0]? = some (ia E a0 N0 f)) (hq1 : ws[q1]? = some (ia E a1 N1 g)) (h4 : sp + nn ≤ N0) (h5 : dp + nn ≤ N1) (hN0 : N0 < 2 ^ 31) (hN1 : N1 < 2 ^ 31) (hlink : Cond.methodLink own index arraycopyName ∈ lw_g) (hfr : 1 ≤ rm.frames) (hlo : (st.map fun v => v.category).sum + (nativeFrameWords "java/lang/System" "arraycopy" 5 + 11) ≤ rm.locals) (hw : ws.set q1 (ia E a1 N1 (va_cpy f g sp dp nn)) = ws') (hdg : decode cc pc = .ok (.invokestatic index, 3)) (kk : GW E X k n ws' lv (pc + 3) st) : GW E X k n ws lv pc (.int (nI nn) :: .int (nI dp) :: .ref a1 :: .int (nI sp) :: .ref a0 :: st) := by
  subst hw
  obtain ⟨l, D, cI, cZ⟩ := E
  obtain ⟨p, e, R, s, m, args, below, meth, c, Q, A, nL⟩ := X
  obtain ⟨hx, hb, hml, hown, hts, hK, hA, hR, hnL, hlk⟩ := F
  subst hR
  subst hnL
  intro H locs ls hP hD hS hl
  have e1 : (nI sp).toNatClampNeg = sp := nI_clamp (by omega)
  have e2 : (nI dp).toNatClampNeg = dp := nI_clamp (by omega)
  have e3 : (nI nn).toNatClampNeg = nn := nI_clamp (by omega)
  refine va_copyi hx hb (hml.trans hl.1.symm) hown (hts _ hlink) (hts _ tw_na_arraycopyName) (hts _ tw_sm_arraycopyName) (hts _ tw_in_J10) hK hP hD hS q0 q1 0 0 hq0 hq1 (ty := .int) rfl rfl rfl (nI_pos (by omega)) (nI_pos (by omega)) (nI_pos (by omega)) (by rw [e1, e3]; exact h4) (by rw [e2, e3]; exact h5) (fun _ _ => rfl) hfr hlo hdg (fun H1 locs1 hP1 hD1 hS1 => ?_)
  rw [e1, e2, e3] at hP1 hD1
  exact kk H1 locs1 ls hP1 hD1 hS1 hl
def agr (q : Nat) (t t2 : Nat → Nat) : Prop := ∀ i, i ≤ q → t i = t2 i
/-- q + 1 of the book, rising -/
def CDT (I : Nat → Bool) (q : Nat) (t : Nat → Nat) : Prop := (∀ i, i ≤ q → I (t i) = true) ∧ ∀ i, i < q → t i < t (i + 1)
def lxl (q : Nat) (t t2 : Nat → Nat) : Prop := t 0 < t2 0 ∨ (t 0 = t2 0 ∧ (q = 0 ∨ t 1 < t2 1 ∨ (t 1 = t2 1 ∧ (q = 1 ∨ t 2 ≤ t2 2))))
theorem lx_agr {q : Nat} {t t1 t2 : Nat → Nat} (hq : q ≤ 2) (h : lxl q t t1) (ha : agr q t2 t1) : lxl q t t2 := by
  unfold lxl at h ⊢
  have a0 := ha 0 (by omega)
  rcases (show q = 0 ∨ q = 1 ∨ q = 2 by omega) with rfl | rfl | rfl
  · omega
  · have a1 := ha 1 (by omega)
    omega
  · have a1 := ha 1 (by omega)
    have a2 := ha 2 (by omega)
    omega
theorem lx_rf {q : Nat} {t t2 : Nat → Nat} (hq : q ≤ 2) (ha : agr q t2 t) : lxl q t t2 := lx_agr hq (by unfold lxl; omega) ha
theorem lx_last {q : Nat} {t t2 : Nat → Nat} (hq : q ≤ 2) (hp : ∀ i, i < q → t i = t2 i) (hl : t q < t2 q) : lxl q t t2 := by
  unfold lxl
  rcases (show q = 0 ∨ q = 1 ∨ q = 2 by omega) with rfl | rfl | rfl
  · omega
  · have a0 := hp 0 (by omega)
    omega
  · have a0 := hp 0 (by omega)
    have a1 := hp 1 (by omega)
    omega
theorem rad_uni {dd : Nat → Nat → Nat} {I : Nat → Bool} {t : Nat → Nat} {c r1 r2 : Nat} (h1 : RAD dd I t c r1) (h2 : RAD dd I t c r2) : r1 = r2 := by
  obtain ⟨a1, x, hx, e1⟩ := h1
  obtain ⟨a2, y, hy, e2⟩ := h2
  have := a1 y hy
  have := a2 x hx
  omega
theorem rad_agr {dd : Nat → Nat → Nat} {I : Nat → Bool} {q ro : Nat} {t t2 : Nat → Nat} (ha : agr q t2 t) (h : RAD dd I t2 (q + 1) ro) : RAD dd I t (q + 1) ro := by
  have e : ∀ x, md dd t (q + 1) x = md dd t2 (q + 1) x := fun x => md_congr x (fun j hj => (ha j (by omega)).symm)
  obtain ⟨a1, x, hx, e1⟩ := h
  exact ⟨fun y hy => by rw [e]; exact a1 y hy, x, hx, by rw [e]; exact e1⟩
/-- the search: Dn the choices that were tried, rad and bt the best of them -/
def BSI (dd : Nat → Nat → Nat) (I : Nat → Bool) (q : Nat) (Dn : (Nat → Nat) → Prop) (rad : Nat) (bt : Nat → Nat) : Prop := (rad = 100001 ∧ ∀ t, ¬ Dn t) ∨ (Dn bt ∧ rad ≤ 100000 ∧ CDT I q bt ∧ RAD dd I bt (q + 1) rad ∧ ∀ t, Dn t → ∀ ro, RAD dd I t (q + 1) ro → rad < ro ∨ (rad = ro ∧ lxl q bt t))
theorem bsi_iff {dd : Nat → Nat → Nat} {I : Nat → Bool} {q rad : Nat} {D1 D2 : (Nat → Nat) → Prop} {bt : Nat → Nat} (h : BSI dd I q D1 rad bt) (e : ∀ t, D1 t ↔ D2 t) : BSI dd I q D2 rad bt := by
  rcases h with ⟨h1, h2⟩ | ⟨h1, h2, h3, h4, h5⟩
  · exact Or.inl ⟨h1, fun t z => h2 t ((e t).mpr z)⟩
  · exact Or.inr ⟨(e bt).mp h1, h2, h3, h4, fun t ht => h5 t ((e t).mpr ht)⟩
theorem bs_new {dd : Nat → Nat → Nat} {I : Nat → Bool} {q rad ro : Nat} {Dn : (Nat → Nat) → Prop} {bt t : Nat → Nat} (hq : q ≤ 2) (h : BSI dd I q Dn rad bt) (hc : CDT I q t) (h1 : ∃ x, I x = true ∧ md dd t (q + 1) x = ro) (h2 : ∀ x, I x = true → md dd t (q + 1) x ≤ ro) (hlt : ro < rad) : BSI dd I q (fun t2 => Dn t2 ∨ agr q t2 t) ro t := by
  refine Or.inr ⟨Or.inr (fun _ _ => rfl), ?_, hc, ⟨h2, h1⟩, fun t2 ht r2 hr2 => ?_⟩
  · obtain ⟨x, -, e⟩ := h1
    rw [← e]
    exact md_le _ _ _ _
  · rcases ht with ht | ht
    · rcases h with ⟨-, z⟩ | ⟨-, -, -, -, z⟩
      · exact absurd ht (z t2)
      · have := z t2 ht r2 hr2
        omega
    · have := rad_uni (rad_agr ht hr2) ⟨h2, h1⟩
      exact Or.inr ⟨this.symm, lx_rf hq ht⟩
theorem bs_old {dd : Nat → Nat → Nat} {I : Nat → Bool} {q rad ro : Nat} {Dn : (Nat → Nat) → Prop} {bt t : Nat → Nat} (hq : q ≤ 2) (h : BSI dd I q Dn rad bt) (h1 : ∃ x, I x = true ∧ md dd t (q + 1) x = ro) (hord : ∀ t2, Dn t2 → lxl q t2 t) (hge : rad ≤ ro) : BSI dd I q (fun t2 => Dn t2 ∨ agr q t2 t) rad bt := by
  obtain ⟨x, hx, e⟩ := h1
  have hm := md_le dd t (q + 1) x
  rcases h with ⟨z, -⟩ | ⟨z1, z2, z3, z4, z5⟩
  · omega
  · refine Or.inr ⟨Or.inl z1, z2, z3, z4, fun t2 ht r2 hr2 => ?_⟩
    rcases ht with ht | ht
    · exact z5 t2 ht r2 hr2
    · have := (rad_agr ht hr2).1 x hx
      have := lx_agr hq (hord bt z1) ht
      rcases Nat.lt_or_ge rad r2 with c | c
      · exact Or.inl c
      · exact Or.inr ⟨by omega, this⟩

set_option maxHeartbeats 4000000 in
set_option maxRecDepth 100000 in
theorem c_X0_gapWith (E : Ev) (e : Nat) (ga : Nat) (pa : Nat) (ba : Nat) (gf : Nat → Int32) (pf : Nat → Int32) (bf : Nat → Int32) (rad : Nat) (sus : Nat) (m : Nat) (a : Nat) (f : Nat → Int32) (k : Nat) (d : Nat) (ro : Nat) (tb : Nat) (ka : Nat) (kn : Nat → Int32) (kd : Nat) (b : Nat → Nat) (dd : Nat → Nat → Nat) (t : Nat → Nat) (q : Nat) (j : Nat) (hb : MB f k b) (hg : ∀ j, j < k → gf (q * 60 + j) = nI (md dd t q (b j))) (hp : pf q = nI (t q) ∧ t q < 60 ∧ ∀ j, j < k → kn (t q * 60 + b j) = nI (dd (t q) (b j)) ∧ dd (t q) (b j) ≤ 100000) (hq : q < 3) (hj : j < k) : RDi E yX0_gapWith (wq yX0_gapWith cX0_gapWith 5 (some .int)) (rmk 1 22) [.ref e, .int (nI q), .int (nI j)] [ob e 0 [.ref m, .ref d, .ref ga, .ref pa, .ref ba, .int (nI rad), .int (nI sus)], ob m 5 [.ref a, .int (nI k)], ia E a 60 f, ob d 3 [.ref ro, .ref tb, .ref ka, .int (nI kd)], ia E ka 3600 kn, ia E ga 180 gf, ia E pa 3 pf, ia E ba 3 bf] (nI (md dd t (q + 1) (b j))) := by
  refine CTi.of (by decide) (Nat.le_of_ble_eq_true rfl) (fun X F R => ?_)
  refine g_lv [0, 1, 2] [(0, .ref e), (1, .int (nI q)), (2, .int (nI j))] rfl ?_
  have hk := hb.1
  have hmd := md_le dd t q (b j)
  have hdj := (hp.2.2 j hj).2
  refine g_aload_n F 0 rfl dX0_gapWith_0 ?_
  refine g_get F 0 0 2 inX0 rfl rfl (by decide) tw_fl_X0_9 rfl dX0_gapWith_1 ?_
  refine g_iload_n F 1 rfl dX0_gapWith_4 ?_
  refine g_bipush F (nI 60) (by decide) dX0_gapWith_5 ?_
  refine n_mul F dX0_gapWith_7 ?_
  refine g_iload_n F 2 rfl dX0_gapWith_8 ?_
  refine n_add F dX0_gapWith_9 ?_
  refine g_iald F 5 rfl (by omega) (by decide) dX0_gapWith_10 ?_
  refine g_top (nI (md dd t q (b j))) (hg j hj) ?_
  refine g_istore_n F 3 [(0, .ref e), (1, .int (nI q)), (2, .int (nI j)), (3, .int (nI (md dd t q (b j))))] [1, 2, 3, 0] dX0_gapWith_11 rfl (by decide) rfl ?_
  refine g_aload_n F 0 rfl dX0_gapWith_12 ?_
  refine g_get F 0 0 1 inX0 rfl rfl (by decide) tw_fl_X0_32 rfl dX0_gapWith_13 ?_
  refine g_aload_n F 0 rfl dX0_gapWith_16 ?_
  refine g_get F 0 0 3 inX0 rfl rfl (by decide) tw_fl_X0_15 rfl dX0_gapWith_17 ?_
  refine g_iload_n F 1 rfl dX0_gapWith_20 ?_
  refine g_iald F 6 rfl (by omega) (by decide) dX0_gapWith_21 ?_
  refine g_top (nI (t q)) (hp.1) ?_
  refine g_aload_n F 0 rfl dX0_gapWith_22 ?_
  refine g_get F 0 0 0 inX0 rfl rfl (by decide) tw_fl_X0_28 rfl dX0_gapWith_23 ?_
  refine g_iload_n F 2 rfl dX0_gapWith_26 ?_
  refine g_rVi F (wr := [ob e 0 [.ref m, .ref d, .ref ga, .ref pa, .ref ba, .int (nI rad), .int (nI sus)], ob d 3 [.ref ro, .ref tb, .ref ka, .int (nI kd)], ia E ka 3600 kn, ia E ga 180 gf, ia E pa 3 pf, ia E ba 3 bf]) [.int (nI (t q)), .ref d] (c_X5_at E m a f k b j (fun i hi => (hb.2.1 i hi).1) (by omega) (by omega)) (gi_V tw_ml_X0_71 tw_im_X5_at tw_se_X5_at tw_in_X5 tw_co_X5_at) 1 rfl (by decide) ⟨rfl, rfl, by decide, by decide, Nat.zero_le _, Nat.zero_le _⟩ 5 0 rfl rfl [1, 2] [0, 3, 4, 5, 6, 7] [0, 6, 7, 1, 2, 3, 4, 5] rfl rfl (by decide) rfl rfl (Nat.le_of_ble_eq_true rfl) dX0_gapWith_27 ?_
  refine g_rVi F (wr := [ob e 0 [.ref m, .ref d, .ref ga, .ref pa, .ref ba, .int (nI rad), .int (nI sus)], ob m 5 [.ref a, .int (nI k)], ia E a 60 f, ia E ga 180 gf, ia E pa 3 pf, ia E ba 3 bf]) [] (c_X3_at E d ro tb ka kn kd dd (t q) (b j) (hp.2.1) ((hb.2.1 j hj).2) ((hp.2.2 j hj).1)) (gi_V tw_ml_X0_88 tw_im_X3_at tw_se_X3_at tw_in_X3 tw_co_X3_at) 2 rfl (by decide) ⟨rfl, rfl, by decide, by decide, Nat.zero_le _, Nat.zero_le _⟩ 3 0 rfl rfl [3, 4] [0, 1, 2, 5, 6, 7] [0, 1, 2, 6, 7, 3, 4, 5] rfl rfl (by decide) rfl rfl (Nat.le_of_ble_eq_true rfl) dX0_gapWith_30 ?_
  refine g_istore F 4 [(0, .ref e), (1, .int (nI q)), (2, .int (nI j)), (3, .int (nI (md dd t q (b j)))), (4, .int (nI (dd (t q) (b j))))] [1, 2, 3, 4, 0] dX0_gapWith_33 (by decide) rfl ?_
  refine g_iload F 4 rfl dX0_gapWith_35 ?_
  refine g_iload_n F 3 rfl dX0_gapWith_37 ?_
  refine n_icmp_ge F 46 dX0_gapWith_38 (by decide) (by omega) (by omega) (fun c_38 => ?_) (fun c_38 => ?_)
  · refine g_iload_n F 3 rfl dX0_gapWith_46 ?_
    exact R _ (()) _ _ dX0_gapWith_47 (by rw [show md dd t (q + 1) (b j) = md dd t q (b j) from Nat.min_eq_left c_38])
  · refine g_iload F 4 rfl dX0_gapWith_41 ?_
    refine g_goto F 47 dX0_gapWith_43 (by decide) ?_
    exact R _ (()) _ _ dX0_gapWith_47 (by rw [show md dd t (q + 1) (b j) = dd (t q) (b j) from Nat.min_eq_right (Nat.le_of_lt c_38)])

set_option maxHeartbeats 4000000 in
set_option maxRecDepth 100000 in
theorem c_X0_reachOf (E : Ev) (e : Nat) (ga : Nat) (pa : Nat) (ba : Nat) (gf : Nat → Int32) (pf : Nat → Int32) (bf : Nat → Int32) (rad : Nat) (sus : Nat) (m : Nat) (a : Nat) (f : Nat → Int32) (k : Nat) (d : Nat) (ro : Nat) (tb : Nat) (ka : Nat) (kn : Nat → Int32) (kd : Nat) (b : Nat → Nat) (dd : Nat → Nat → Nat) (t : Nat → Nat) (q : Nat) (hb : MB f k b) (hg : ∀ j, j < k → gf (q * 60 + j) = nI (md dd t q (b j))) (hp : pf q = nI (t q) ∧ t q < 60 ∧ ∀ j, j < k → kn (t q * 60 + b j) = nI (dd (t q) (b j)) ∧ dd (t q) (b j) ≤ 100000) (hq : q < 3) (hs : sus < k) (hr : rad ≤ 100001) : CTi E yX0_reachOf (wq yX0_reachOf cX0_reachOf 5 (some .int)) (rmk 2 46) [.ref e, .int (nI q)] [ob e 0 [.ref m, .ref d, .ref ga, .ref pa, .ref ba, .int (nI rad), .int (nI sus)], ob m 5 [.ref a, .int (nI k)], ia E a 60 f, ob d 3 [.ref ro, .ref tb, .ref ka, .int (nI kd)], ia E ka 3600 kn, ia E ga 180 gf, ia E pa 3 pf, ia E ba 3 bf] (fun (r : Int32) (u : Nat × Nat) => r = nI u.1 ∧ u.1 ≤ 100000 ∧ u.2 < k ∧ (∃ j, j < k ∧ md dd t (q + 1) (b j) = u.1) ∧ (u.1 < rad → ∀ j, j < k → md dd t (q + 1) (b j) ≤ u.1)) (fun (u : Nat × Nat) => [ob e 0 [.ref m, .ref d, .ref ga, .ref pa, .ref ba, .int (nI rad), .int (nI u.2)], ob m 5 [.ref a, .int (nI k)], ia E a 60 f, ob d 3 [.ref ro, .ref tb, .ref ka, .int (nI kd)], ia E ka 3600 kn, ia E ga 180 gf, ia E pa 3 pf, ia E ba 3 bf]) := by
  refine CTi.of (by decide) (Nat.le_of_ble_eq_true rfl) (fun X F R => ?_)
  refine g_lv [0, 1] [(0, .ref e), (1, .int (nI q))] rfl ?_
  have hk := hb.1
  have hmd := fun j => md_le dd t (q + 1) (b j)
  refine g_aload_n F 0 rfl dX0_reachOf_0 ?_
  refine g_iload_n F 1 rfl dX0_reachOf_1 ?_
  refine g_aload_n F 0 rfl dX0_reachOf_2 ?_
  refine g_get F 0 0 6 inX0 rfl rfl (by decide) tw_fl_X0_25 rfl dX0_reachOf_3 ?_
  refine g_rVi F (wr := []) [] (c_X0_gapWith E e ga pa ba gf pf bf rad sus m a f k d ro tb ka kn kd b dd t q sus (hb) (hg) (hp) (hq) (by omega)) (gi_V tw_ml_X0_84 tw_im_X0_gapWith tw_se_X0_gapWith tw_in_X0 tw_co_X0_gapWith) 2 rfl (by decide) ⟨rfl, rfl, by decide, by decide, Nat.zero_le _, Nat.zero_le _⟩ 0 0 rfl rfl [0, 1, 2, 3, 4, 5, 6, 7] [] [0, 1, 2, 3, 4, 5, 6, 7] rfl rfl (by decide) rfl rfl (Nat.le_of_ble_eq_true rfl) dX0_reachOf_6 ?_
  refine g_istore_n F 2 [(0, .ref e), (1, .int (nI q)), (2, .int (nI (md dd t (q + 1) (b sus))))] [1, 2, 0] dX0_reachOf_9 rfl (by decide) rfl ?_
  refine g_iconst F (nI 0) (by decide) dX0_reachOf_10 ?_
  refine g_istore_n F 3 [(0, .ref e), (1, .int (nI q)), (2, .int (nI (md dd t (q + 1) (b sus)))), (3, .int (nI 0))] [1, 2, 3, 0] dX0_reachOf_11 rfl (by decide) rfl ?_
  have lp_12 : ∀ (n_12 : Nat) (i : Nat) (rh : Nat) (s2 : Nat), (i ≤ k) → (rh ≤ 100000) → (s2 < k) → (∃ j, j < k ∧ md dd t (q + 1) (b j) = rh) → (∀ j, j < i → md dd t (q + 1) (b j) ≤ rh) → k - i < n_12 → GW E X 0 0 [ob e 0 [.ref m, .ref d, .ref ga, .ref pa, .ref ba, .int (nI rad), .int (nI s2)], ob m 5 [.ref a, .int (nI k)], ia E a 60 f, ob d 3 [.ref ro, .ref tb, .ref ka, .int (nI kd)], ia E ka 3600 kn, ia E ga 180 gf, ia E pa 3 pf, ia E ba 3 bf] [(0, .ref e), (1, .int (nI q)), (2, .int (nI rh)), (3, .int (nI i))] 12 [] := by
    intro n_12
    induction n_12 with
    | zero => intro i rh s2 hi hro hs2 he hm hm_12; exact absurd hm_12 (Nat.not_lt_zero _)
    | succ n_12 ih_12 =>
      intro i rh s2 hi hro hs2 he hm hm_12
      refine g_iload_n F 3 rfl dX0_reachOf_12 ?_
      refine g_aload_n F 0 rfl dX0_reachOf_13 ?_
      refine g_get F 0 0 0 inX0 rfl rfl (by decide) tw_fl_X0_28 rfl dX0_reachOf_14 ?_
      refine g_rVi F (wr := [ob e 0 [.ref m, .ref d, .ref ga, .ref pa, .ref ba, .int (nI rad), .int (nI s2)], ob d 3 [.ref ro, .ref tb, .ref ka, .int (nI kd)], ia E ka 3600 kn, ia E ga 180 gf, ia E pa 3 pf, ia E ba 3 bf]) [.int (nI i)] (c_X5_size E m a f k ) (gi_V tw_ml_X0_62 tw_im_X5_size tw_se_X5_size tw_in_X5 tw_co_X5_size) 0 rfl (by decide) ⟨rfl, rfl, by decide, by decide, Nat.zero_le _, Nat.zero_le _⟩ 5 0 rfl rfl [1, 2] [0, 3, 4, 5, 6, 7] [0, 6, 7, 1, 2, 3, 4, 5] rfl rfl (by decide) rfl rfl (Nat.le_of_ble_eq_true rfl) dX0_reachOf_17 ?_
      refine n_icmp_ge F 59 dX0_reachOf_20 (by decide) (by omega) (by omega) (fun c_20 => ?_) (fun c_20 => ?_)
      · refine g_iload_n F 2 rfl dX0_reachOf_59 ?_
        exact R _ ((rh, s2)) _ _ dX0_reachOf_60 (by (try dsimp only); exact (⟨rfl, hro, hs2, he, fun _ j hj => hm j (by omega)⟩))
      · refine g_iload_n F 2 rfl dX0_reachOf_23 ?_
        refine g_aload_n F 0 rfl dX0_reachOf_24 ?_
        refine g_get F 0 0 5 inX0 rfl rfl (by decide) tw_fl_X0_21 rfl dX0_reachOf_25 ?_
        refine n_icmp_ge F 59 dX0_reachOf_28 (by decide) (by omega) (by omega) (fun c_28 => ?_) (fun c_28 => ?_)
        · refine g_iload_n F 2 rfl dX0_reachOf_59 ?_
          exact R _ ((rh, s2)) _ _ dX0_reachOf_60 (by (try dsimp only); exact (⟨rfl, hro, hs2, he, fun z => absurd z (by omega)⟩))
        · refine g_aload_n F 0 rfl dX0_reachOf_31 ?_
          refine g_iload_n F 1 rfl dX0_reachOf_32 ?_
          refine g_iload_n F 3 rfl dX0_reachOf_33 ?_
          refine g_rVi F (wr := []) [] (c_X0_gapWith E e ga pa ba gf pf bf rad s2 m a f k d ro tb ka kn kd b dd t q i (hb) (hg) (hp) (hq) (by omega)) (gi_V tw_ml_X0_84 tw_im_X0_gapWith tw_se_X0_gapWith tw_in_X0 tw_co_X0_gapWith) 2 rfl (by decide) ⟨rfl, rfl, by decide, by decide, Nat.zero_le _, Nat.zero_le _⟩ 0 0 rfl rfl [0, 1, 2, 3, 4, 5, 6, 7] [] [0, 1, 2, 3, 4, 5, 6, 7] rfl rfl (by decide) rfl rfl (Nat.le_of_ble_eq_true rfl) dX0_reachOf_34 ?_
          refine g_istore F 4 [(0, .ref e), (1, .int (nI q)), (2, .int (nI rh)), (3, .int (nI i)), (4, .int (nI (md dd t (q + 1) (b i))))] [1, 2, 3, 4, 0] dX0_reachOf_37 (by decide) rfl ?_
          refine g_iload F 4 rfl dX0_reachOf_39 ?_
          refine g_iload_n F 2 rfl dX0_reachOf_41 ?_
          refine n_icmp_le F 53 dX0_reachOf_42 (by decide) (by have := hmd i; omega) (by omega) (fun c_42 => ?_) (fun c_42 => ?_)
          · refine g_iinc F (nI (i + 1)) 3 3 [(0, .ref e), (1, .int (nI q)), (2, .int (nI rh)), (3, .int (nI (i + 1))), (4, .int (nI (md dd t (q + 1) (b i))))] [1, 2, 3, 0, 4] dX0_reachOf_53 rfl (n_inc i) (by decide) rfl ?_
            refine g_goto F 12 dX0_reachOf_56 (by decide) ?_
            refine g_lv [0, 1, 2, 3] [(0, .ref e), (1, .int (nI q)), (2, .int (nI rh)), (3, .int (nI (i + 1)))] rfl ?_
            exact ih_12 (i + 1) rh s2 (by omega) (hro) (hs2) (he) (lt_s hm c_42) (by omega)
          · refine g_iload F 4 rfl dX0_reachOf_45 ?_
            refine g_istore_n F 2 [(0, .ref e), (1, .int (nI q)), (2, .int (nI (md dd t (q + 1) (b i)))), (3, .int (nI i)), (4, .int (nI (md dd t (q + 1) (b i))))] [1, 2, 0, 3, 4] dX0_reachOf_47 rfl (by decide) rfl ?_
            refine g_aload_n F 0 rfl dX0_reachOf_48 ?_
            refine g_iload_n F 3 rfl dX0_reachOf_49 ?_
            refine g_put F 0 0 6 [ob e 0 [.ref m, .ref d, .ref ga, .ref pa, .ref ba, .int (nI rad), .int (nI i)], ob m 5 [.ref a, .int (nI k)], ia E a 60 f, ob d 3 [.ref ro, .ref tb, .ref ka, .int (nI kd)], ia E ka 3600 kn, ia E ga 180 gf, ia E pa 3 pf, ia E ba 3 bf] inX0 tyX0_ok nmX0 rfl rfl (by decide) tw_fl_X0_25 rfl rfl rfl rfl (Nat.le_of_ble_eq_true rfl) rfl dX0_reachOf_50 ?_
            refine g_iinc F (nI (i + 1)) 3 3 [(0, .ref e), (1, .int (nI q)), (2, .int (nI (md dd t (q + 1) (b i)))), (3, .int (nI (i + 1))), (4, .int (nI (md dd t (q + 1) (b i))))] [1, 2, 3, 0, 4] dX0_reachOf_53 rfl (n_inc i) (by decide) rfl ?_
            refine g_goto F 12 dX0_reachOf_56 (by decide) ?_
            refine g_lv [0, 1, 2, 3] [(0, .ref e), (1, .int (nI q)), (2, .int (nI (md dd t (q + 1) (b i)))), (3, .int (nI (i + 1)))] rfl ?_
            exact ih_12 (i + 1) (md dd t (q + 1) (b i)) i (by omega) (hmd i) (by omega) (⟨i, by omega, rfl⟩) (lt_s (fun j hj => by have := hm j hj; omega) (Nat.le_refl _)) (by omega)
  exact lp_12 _ 0 (md dd t (q + 1) (b sus)) sus (by omega) (hmd sus) (hs) (⟨sus, hs, rfl⟩) (fun j hj => absurd hj (Nat.not_lt_zero j)) (Nat.lt_succ_self _)

set_option maxHeartbeats 4000000 in
set_option maxRecDepth 100000 in
theorem c_X0_pick (E : Ev) (e : Nat) (ga : Nat) (pa : Nat) (ba : Nat) (gf : Nat → Int32) (pf : Nat → Int32) (bf : Nat → Int32) (rad : Nat) (sus : Nat) (m : Nat) (a : Nat) (f : Nat → Int32) (k : Nat) (d : Nat) (ro : Nat) (tb : Nat) (ka : Nat) (kn : Nat → Int32) (kd : Nat) (b : Nat → Nat) (dd : Nat → Nat → Nat) (t : Nat → Nat) (q : Nat) (i0 : Nat) (hb : MB f k b) (hd : ∀ i j, i < k → j < k → kn (b i * 60 + b j) = nI (dd (b i) (b j)) ∧ dd (b i) (b j) ≤ 100000) (hq : q < 2) (hi0 : i0 < k) (hg : ∀ j, j < k → gf (q * 60 + j) = nI (md dd t q (b j))) : CTv E yX0_pick (wq yX0_pick cX0_pick 5 none) (rmk 2 46) [.ref e, .int (nI q), .int (nI i0)] [ob e 0 [.ref m, .ref d, .ref ga, .ref pa, .ref ba, .int (nI rad), .int (nI sus)], ob m 5 [.ref a, .int (nI k)], ia E a 60 f, ob d 3 [.ref ro, .ref tb, .ref ka, .int (nI kd)], ia E ka 3600 kn, ia E ga 180 gf, ia E pa 3 pf, ia E ba 3 bf] (fun (u : (Nat → Int32)) => (∀ j, j < k → u ((q + 1) * 60 + j) = nI (md dd (setN t q (b i0)) (q + 1) (b j))) ∧ ∀ x, x < (q + 1) * 60 → u x = gf x) (fun (u : (Nat → Int32)) => [ob e 0 [.ref m, .ref d, .ref ga, .ref pa, .ref ba, .int (nI rad), .int (nI sus)], ob m 5 [.ref a, .int (nI k)], ia E a 60 f, ob d 3 [.ref ro, .ref tb, .ref ka, .int (nI kd)], ia E ka 3600 kn, ia E ga 180 u, ia E pa 3 (upd pf q (nI (b i0))), ia E ba 3 bf]) := by
  refine CTv.of (by decide) (Nat.le_of_ble_eq_true rfl) (fun X F R => ?_)
  refine g_lv [0, 1, 2] [(0, .ref e), (1, .int (nI q)), (2, .int (nI i0))] rfl ?_
  have hk := hb.1
  refine g_aload_n F 0 rfl dX0_pick_0 ?_
  refine g_get F 0 0 3 inX0 rfl rfl (by decide) tw_fl_X0_15 rfl dX0_pick_1 ?_
  refine g_iload_n F 1 rfl dX0_pick_4 ?_
  refine g_aload_n F 0 rfl dX0_pick_5 ?_
  refine g_get F 0 0 0 inX0 rfl rfl (by decide) tw_fl_X0_28 rfl dX0_pick_6 ?_
  refine g_iload_n F 2 rfl dX0_pick_9 ?_
  refine g_rVi F (wr := [ob e 0 [.ref m, .ref d, .ref ga, .ref pa, .ref ba, .int (nI rad), .int (nI sus)], ob d 3 [.ref ro, .ref tb, .ref ka, .int (nI kd)], ia E ka 3600 kn, ia E ga 180 gf, ia E pa 3 pf, ia E ba 3 bf]) [.int (nI q), .ref pa] (c_X5_at E m a f k b i0 (fun i hi => (hb.2.1 i hi).1) (by omega) (by omega)) (gi_V tw_ml_X0_71 tw_im_X5_at tw_se_X5_at tw_in_X5 tw_co_X5_at) 1 rfl (by decide) ⟨rfl, rfl, by decide, by decide, Nat.zero_le _, Nat.zero_le _⟩ 5 0 rfl rfl [1, 2] [0, 3, 4, 5, 6, 7] [0, 6, 7, 1, 2, 3, 4, 5] rfl rfl (by decide) rfl rfl (Nat.le_of_ble_eq_true rfl) dX0_pick_10 ?_
  refine g_iast F 6 [ob e 0 [.ref m, .ref d, .ref ga, .ref pa, .ref ba, .int (nI rad), .int (nI sus)], ob m 5 [.ref a, .int (nI k)], ia E a 60 f, ob d 3 [.ref ro, .ref tb, .ref ka, .int (nI kd)], ia E ka 3600 kn, ia E ga 180 gf, ia E pa 3 (upd pf q (nI (b i0))), ia E ba 3 bf] rfl (by omega) (by decide) rfl dX0_pick_13 ?_
  refine g_iload_n F 1 rfl dX0_pick_14 ?_
  refine g_iconst F (nI 1) (by decide) dX0_pick_15 ?_
  refine n_add F dX0_pick_16 ?_
  refine g_bipush F (nI 60) (by decide) dX0_pick_17 ?_
  refine n_mul F dX0_pick_19 ?_
  refine g_istore_n F 3 [(0, .ref e), (1, .int (nI q)), (2, .int (nI i0)), (3, .int (nI ((q + 1) * 60)))] [1, 2, 3, 0] dX0_pick_20 rfl (by decide) rfl ?_
  refine g_iconst F (nI 0) (by decide) dX0_pick_21 ?_
  refine g_istore F 4 [(0, .ref e), (1, .int (nI q)), (2, .int (nI i0)), (3, .int (nI ((q + 1) * 60))), (4, .int (nI 0))] [1, 2, 3, 4, 0] dX0_pick_22 (by decide) rfl ?_
  have lp_24 : ∀ (n_24 : Nat) (i : Nat) (g : Nat → Int32), (i ≤ k) → (∀ j, j < i → g ((q + 1) * 60 + j) = nI (md dd (setN t q (b i0)) (q + 1) (b j))) → (∀ x, x < (q + 1) * 60 → g x = gf x) → k - i < n_24 → GW E X 0 0 [ob e 0 [.ref m, .ref d, .ref ga, .ref pa, .ref ba, .int (nI rad), .int (nI sus)], ob m 5 [.ref a, .int (nI k)], ia E a 60 f, ob d 3 [.ref ro, .ref tb, .ref ka, .int (nI kd)], ia E ka 3600 kn, ia E ga 180 g, ia E pa 3 (upd pf q (nI (b i0))), ia E ba 3 bf] [(0, .ref e), (1, .int (nI q)), (2, .int (nI i0)), (3, .int (nI ((q + 1) * 60))), (4, .int (nI i))] 24 [] := by
    intro n_24
    induction n_24 with
    | zero => intro i g hi g1 g2 hm_24; exact absurd hm_24 (Nat.not_lt_zero _)
    | succ n_24 ih_24 =>
      intro i g hi g1 g2 hm_24
      refine g_iload F 4 rfl dX0_pick_24 ?_
      refine g_aload_n F 0 rfl dX0_pick_26 ?_
      refine g_get F 0 0 0 inX0 rfl rfl (by decide) tw_fl_X0_28 rfl dX0_pick_27 ?_
      refine g_rVi F (wr := [ob e 0 [.ref m, .ref d, .ref ga, .ref pa, .ref ba, .int (nI rad), .int (nI sus)], ob d 3 [.ref ro, .ref tb, .ref ka, .int (nI kd)], ia E ka 3600 kn, ia E ga 180 g, ia E pa 3 (upd pf q (nI (b i0))), ia E ba 3 bf]) [.int (nI i)] (c_X5_size E m a f k ) (gi_V tw_ml_X0_62 tw_im_X5_size tw_se_X5_size tw_in_X5 tw_co_X5_size) 0 rfl (by decide) ⟨rfl, rfl, by decide, by decide, Nat.zero_le _, Nat.zero_le _⟩ 5 0 rfl rfl [1, 2] [0, 3, 4, 5, 6, 7] [0, 6, 7, 1, 2, 3, 4, 5] rfl rfl (by decide) rfl rfl (Nat.le_of_ble_eq_true rfl) dX0_pick_30 ?_
      refine n_icmp_ge F 58 dX0_pick_33 (by decide) (by omega) (by omega) (fun c_33 => ?_) (fun c_33 => ?_)
      · exact R g _ _ dX0_pick_58 (⟨fun j hj => g1 j (by omega), g2⟩)
      · refine g_aload_n F 0 rfl dX0_pick_36 ?_
        refine g_get F 0 0 2 inX0 rfl rfl (by decide) tw_fl_X0_9 rfl dX0_pick_37 ?_
        refine g_iload_n F 3 rfl dX0_pick_40 ?_
        refine g_iload F 4 rfl dX0_pick_41 ?_
        refine n_add F dX0_pick_43 ?_
        refine g_aload_n F 0 rfl dX0_pick_44 ?_
        refine g_iload_n F 1 rfl dX0_pick_45 ?_
        refine g_iload F 4 rfl dX0_pick_46 ?_
        refine g_rVi F (wr := []) [.int (nI (((q + 1) * 60) + i)), .ref ga] (c_X0_gapWith E e ga pa ba g (upd pf q (nI (b i0))) bf rad sus m a f k d ro tb ka kn kd b dd (setN t q (b i0)) q i (hb) (fun j hj => by rw [g2 _ (by omega), hg j hj, md_congr (b j) (fun l hl => (setN_n (t := t) (x := b i0) (show l ≠ q by omega)).symm)]) (⟨by rw [pk_us, setN_s], by rw [setN_s]; exact (hb.2.1 i0 hi0).2, by rw [setN_s]; exact fun j hj => hd i0 j hi0 hj⟩) (by omega) (by omega)) (gi_V tw_ml_X0_84 tw_im_X0_gapWith tw_se_X0_gapWith tw_in_X0 tw_co_X0_gapWith) 2 rfl (by decide) ⟨rfl, rfl, by decide, by decide, Nat.zero_le _, Nat.zero_le _⟩ 0 0 rfl rfl [0, 1, 2, 3, 4, 5, 6, 7] [] [0, 1, 2, 3, 4, 5, 6, 7] rfl rfl (by decide) rfl rfl (Nat.le_of_ble_eq_true rfl) dX0_pick_48 ?_
        refine g_iast F 5 [ob e 0 [.ref m, .ref d, .ref ga, .ref pa, .ref ba, .int (nI rad), .int (nI sus)], ob m 5 [.ref a, .int (nI k)], ia E a 60 f, ob d 3 [.ref ro, .ref tb, .ref ka, .int (nI kd)], ia E ka 3600 kn, ia E ga 180 (upd g (((q + 1) * 60) + i) (nI (md dd (setN t q (b i0)) (q + 1) (b i)))), ia E pa 3 (upd pf q (nI (b i0))), ia E ba 3 bf] rfl (by omega) (by decide) rfl dX0_pick_51 ?_
        refine g_iinc F (nI (i + 1)) 4 4 [(0, .ref e), (1, .int (nI q)), (2, .int (nI i0)), (3, .int (nI ((q + 1) * 60))), (4, .int (nI (i + 1)))] [1, 2, 3, 4, 0] dX0_pick_52 rfl (n_inc i) (by decide) rfl ?_
        refine g_goto F 24 dX0_pick_55 (by decide) ?_
        exact ih_24 (i + 1) (upd g (((q + 1) * 60) + i) (nI (md dd (setN t q (b i0)) (q + 1) (b i)))) (by omega) (lt_s (fun j hj => (pk_un (by omega)).trans (g1 j hj)) pk_us) (fun x hx => (pk_un (by omega)).trans (g2 x hx)) (by omega)
  exact lp_24 _ 0 gf (by omega) (fun j hj => absurd hj (Nat.not_lt_zero j)) (fun _ _ => rfl) (Nat.lt_succ_self _)

set_option maxHeartbeats 4000000 in
set_option maxRecDepth 100000 in
theorem c_X0_tryLast (E : Ev) (e : Nat) (ga : Nat) (pa : Nat) (ba : Nat) (gf : Nat → Int32) (pf : Nat → Int32) (bf : Nat → Int32) (rad : Nat) (sus : Nat) (m : Nat) (a : Nat) (f : Nat → Int32) (k : Nat) (d : Nat) (ro : Nat) (tb : Nat) (ka : Nat) (kn : Nat → Int32) (kd : Nat) (b : Nat → Nat) (dd : Nat → Nat → Nat) (t : Nat → Nat) (I : Nat → Bool) (Dn : (Nat → Nat) → Prop) (bt : Nat → Nat) (q : Nat) (fr : Nat) (hb : MB f k b) (hI : BK b k I) (hd : ∀ i j, i < k → j < k → kn (b i * 60 + b j) = nI (dd (b i) (b j)) ∧ dd (b i) (b j) ≤ 100000) (hq : q < 3) (hg : ∀ j, j < k → gf (q * 60 + j) = nI (md dd t q (b j))) (hfr : fr ≤ k) (hs : sus < k) (hpf : ∀ j, j < q → pf j = nI (t j)) (hbf : rad ≤ 100000 → ∀ j, j ≤ q → bf j = nI (bt j)) (hB : BSI dd I q Dn rad bt) (hcd : ∀ i, fr ≤ i → i < k → CDT I q (setN t q (b i))) (hor : ∀ i, fr ≤ i → i < k → ∀ t2, Dn t2 → lxl q t2 (setN t q (b i))) : CTv E yX0_tryLast (wq yX0_tryLast cX0_tryLast 5 none) (rmk 3 70) [.ref e, .int (nI q), .int (nI fr)] [ob e 0 [.ref m, .ref d, .ref ga, .ref pa, .ref ba, .int (nI rad), .int (nI sus)], ob m 5 [.ref a, .int (nI k)], ia E a 60 f, ob d 3 [.ref ro, .ref tb, .ref ka, .int (nI kd)], ia E ka 3600 kn, ia E ga 180 gf, ia E pa 3 pf, ia E ba 3 bf] (fun (u : (Nat → Int32) × (Nat → Int32) × Nat × Nat) => (∀ j, j < q → u.1 j = nI (t j)) ∧ u.2.2.2 < k ∧ ∃ bt2, (u.2.2.1 ≤ 100000 → ∀ j, j ≤ q → u.2.1 j = nI (bt2 j)) ∧ BSI dd I q (fun t2 => Dn t2 ∨ ∃ i, fr ≤ i ∧ i < k ∧ agr q t2 (setN t q (b i))) u.2.2.1 bt2) (fun (u : (Nat → Int32) × (Nat → Int32) × Nat × Nat) => [ob e 0 [.ref m, .ref d, .ref ga, .ref pa, .ref ba, .int (nI u.2.2.1), .int (nI u.2.2.2)], ob m 5 [.ref a, .int (nI k)], ia E a 60 f, ob d 3 [.ref ro, .ref tb, .ref ka, .int (nI kd)], ia E ka 3600 kn, ia E ga 180 gf, ia E pa 3 u.1, ia E ba 3 u.2.1]) := by
  refine CTv.of (by decide) (Nat.le_of_ble_eq_true rfl) (fun X F R => ?_)
  refine g_lv [0, 1, 2] [(0, .ref e), (1, .int (nI q)), (2, .int (nI fr))] rfl ?_
  have hk := hb.1
  refine g_iload_n F 2 rfl dX0_tryLast_0 ?_
  refine g_istore_n F 3 [(0, .ref e), (1, .int (nI q)), (2, .int (nI fr)), (3, .int (nI fr))] [1, 2, 3, 0] dX0_tryLast_1 rfl (by decide) rfl ?_
  have lp_2 : ∀ (n_2 : Nat) (i : Nat) (p1 : Nat → Int32) (b1 : Nat → Int32) (r1 : Nat) (s2 : Nat) (bt1 : Nat → Nat), (fr ≤ i) → (i ≤ k) → (∀ j, j < q → p1 j = nI (t j)) → (s2 < k) → (r1 ≤ 100001) → (r1 ≤ 100000 → ∀ j, j ≤ q → b1 j = nI (bt1 j)) → (BSI dd I q (fun t2 => Dn t2 ∨ ∃ i2, fr ≤ i2 ∧ i2 < i ∧ agr q t2 (setN t q (b i2))) r1 bt1) → k - i < n_2 → GW E X 0 0 [ob e 0 [.ref m, .ref d, .ref ga, .ref pa, .ref ba, .int (nI r1), .int (nI s2)], ob m 5 [.ref a, .int (nI k)], ia E a 60 f, ob d 3 [.ref ro, .ref tb, .ref ka, .int (nI kd)], ia E ka 3600 kn, ia E ga 180 gf, ia E pa 3 p1, ia E ba 3 b1] [(0, .ref e), (1, .int (nI q)), (2, .int (nI fr)), (3, .int (nI i))] 2 [] := by
    intro n_2
    induction n_2 with
    | zero => intro i p1 b1 r1 s2 bt1 hfi hi hp1 hs2 hrad hb1 hB1 hm_2; exact absurd hm_2 (Nat.not_lt_zero _)
    | succ n_2 ih_2 =>
      intro i p1 b1 r1 s2 bt1 hfi hi hp1 hs2 hrad hb1 hB1 hm_2
      refine g_iload_n F 3 rfl dX0_tryLast_2 ?_
      refine g_aload_n F 0 rfl dX0_tryLast_3 ?_
      refine g_get F 0 0 0 inX0 rfl rfl (by decide) tw_fl_X0_28 rfl dX0_tryLast_4 ?_
      refine g_rVi F (wr := [ob e 0 [.ref m, .ref d, .ref ga, .ref pa, .ref ba, .int (nI r1), .int (nI s2)], ob d 3 [.ref ro, .ref tb, .ref ka, .int (nI kd)], ia E ka 3600 kn, ia E ga 180 gf, ia E pa 3 p1, ia E ba 3 b1]) [.int (nI i)] (c_X5_size E m a f k ) (gi_V tw_ml_X0_62 tw_im_X5_size tw_se_X5_size tw_in_X5 tw_co_X5_size) 0 rfl (by decide) ⟨rfl, rfl, by decide, by decide, Nat.zero_le _, Nat.zero_le _⟩ 5 0 rfl rfl [1, 2] [0, 3, 4, 5, 6, 7] [0, 6, 7, 1, 2, 3, 4, 5] rfl rfl (by decide) rfl rfl (Nat.le_of_ble_eq_true rfl) dX0_tryLast_7 ?_
      refine n_icmp_ge F 69 dX0_tryLast_10 (by decide) (by omega) (by omega) (fun c_10 => ?_) (fun c_10 => ?_)
      · exact R ((p1, b1, r1, s2)) _ _ dX0_tryLast_69 (by (try dsimp only); exact (⟨hp1, hs2, bt1, hb1, bsi_iff hB1 (fun t2 => ⟨fun z => z.elim Or.inl (fun ⟨i2, y1, y2, y3⟩ => Or.inr ⟨i2, y1, by omega, y3⟩), fun z => z.elim Or.inl (fun ⟨i2, y1, y2, y3⟩ => Or.inr ⟨i2, y1, by omega, y3⟩)⟩)⟩))
      · have hcdi := hcd i hfi c_10
        refine g_aload_n F 0 rfl dX0_tryLast_13 ?_
        refine g_get F 0 0 3 inX0 rfl rfl (by decide) tw_fl_X0_15 rfl dX0_tryLast_14 ?_
        refine g_iload_n F 1 rfl dX0_tryLast_17 ?_
        refine g_aload_n F 0 rfl dX0_tryLast_18 ?_
        refine g_get F 0 0 0 inX0 rfl rfl (by decide) tw_fl_X0_28 rfl dX0_tryLast_19 ?_
        refine g_iload_n F 3 rfl dX0_tryLast_22 ?_
        refine g_rVi F (wr := [ob e 0 [.ref m, .ref d, .ref ga, .ref pa, .ref ba, .int (nI r1), .int (nI s2)], ob d 3 [.ref ro, .ref tb, .ref ka, .int (nI kd)], ia E ka 3600 kn, ia E ga 180 gf, ia E pa 3 p1, ia E ba 3 b1]) [.int (nI q), .ref pa] (c_X5_at E m a f k b i (fun i hi => (hb.2.1 i hi).1) (by omega) (by omega)) (gi_V tw_ml_X0_71 tw_im_X5_at tw_se_X5_at tw_in_X5 tw_co_X5_at) 1 rfl (by decide) ⟨rfl, rfl, by decide, by decide, Nat.zero_le _, Nat.zero_le _⟩ 5 0 rfl rfl [1, 2] [0, 3, 4, 5, 6, 7] [0, 6, 7, 1, 2, 3, 4, 5] rfl rfl (by decide) rfl rfl (Nat.le_of_ble_eq_true rfl) dX0_tryLast_23 ?_
        refine g_iast F 6 [ob e 0 [.ref m, .ref d, .ref ga, .ref pa, .ref ba, .int (nI r1), .int (nI s2)], ob m 5 [.ref a, .int (nI k)], ia E a 60 f, ob d 3 [.ref ro, .ref tb, .ref ka, .int (nI kd)], ia E ka 3600 kn, ia E ga 180 gf, ia E pa 3 (upd p1 q (nI (b i))), ia E ba 3 b1] rfl (by omega) (by decide) rfl dX0_tryLast_26 ?_
        refine g_aload_n F 0 rfl dX0_tryLast_27 ?_
        refine g_iload_n F 1 rfl dX0_tryLast_28 ?_
        refine g_cVi F (wr := []) [] (c_X0_reachOf E e ga pa ba gf (upd p1 q (nI (b i))) b1 r1 s2 m a f k d ro tb ka kn kd b dd (setN t q (b i)) q (hb) (fun j hj => by rw [hg j hj, md_congr (b j) (fun l hl => (setN_n (t := t) (x := b i) (show l ≠ q by omega)).symm)]) (⟨by rw [pk_us, setN_s], by rw [setN_s]; exact (hb.2.1 i (by omega)).2, by rw [setN_s]; exact fun j hj => hd i j (by omega) hj⟩) (hq) (hs2) (hrad)) (gi_V tw_ml_X0_75 tw_im_X0_reachOf tw_se_X0_reachOf tw_in_X0 tw_co_X0_reachOf) 1 rfl (by decide) ⟨rfl, rfl, by decide, by decide, Nat.zero_le _, Nat.zero_le _⟩ 0 0 rfl rfl [0, 1, 2, 3, 4, 5, 6, 7] [] [0, 1, 2, 3, 4, 5, 6, 7] (fun u => [ob e 0 [.ref m, .ref d, .ref ga, .ref pa, .ref ba, .int (nI r1), .int (nI u.2)], ob m 5 [.ref a, .int (nI k)], ia E a 60 f, ob d 3 [.ref ro, .ref tb, .ref ka, .int (nI kd)], ia E ka 3600 kn, ia E ga 180 gf, ia E pa 3 ((upd p1 q (nI (b i)))), ia E ba 3 b1]) rfl rfl (by decide) (fun _ => rfl) rfl (Nat.le_of_ble_eq_true rfl) dX0_tryLast_29 (fun r_29 u hu_29 => ?_)
        obtain ⟨ro_29, s_29⟩ := u
        refine g_ws [ob e 0 [.ref m, .ref d, .ref ga, .ref pa, .ref ba, .int (nI r1), .int (nI s_29)], ob m 5 [.ref a, .int (nI k)], ia E a 60 f, ob d 3 [.ref ro, .ref tb, .ref ka, .int (nI kd)], ia E ka 3600 kn, ia E ga 180 gf, ia E pa 3 ((upd p1 q (nI (b i)))), ia E ba 3 b1] rfl ?_
        dsimp only at hu_29
        obtain ⟨rfl, hro, hs3, hex, hle⟩ := hu_29
        refine g_istore F 4 [(0, .ref e), (1, .int (nI q)), (2, .int (nI fr)), (3, .int (nI i)), (4, .int (nI ro_29))] [1, 2, 3, 4, 0] dX0_tryLast_32 (by decide) rfl ?_
        have hex2 : ∃ x, I x = true ∧ md dd (setN t q (b i)) (q + 1) x = ro_29 := by
          obtain ⟨j, hj, e9⟩ := hex
          exact ⟨b j, hI.at hj, e9⟩
        refine g_iload F 4 rfl dX0_tryLast_34 ?_
        refine g_aload_n F 0 rfl dX0_tryLast_36 ?_
        refine g_get F 0 0 5 inX0 rfl rfl (by decide) tw_fl_X0_21 rfl dX0_tryLast_37 ?_
        refine n_icmp_ge F 63 dX0_tryLast_40 (by decide) (by omega) (by omega) (fun c_40 => ?_) (fun c_40 => ?_)
        · refine g_iinc F (nI (i + 1)) 3 3 [(0, .ref e), (1, .int (nI q)), (2, .int (nI fr)), (3, .int (nI (i + 1))), (4, .int (nI ro_29))] [1, 2, 3, 0, 4] dX0_tryLast_63 rfl (n_inc i) (by decide) rfl ?_
          refine g_goto F 2 dX0_tryLast_66 (by decide) ?_
          refine g_lv [0, 1, 2, 3] [(0, .ref e), (1, .int (nI q)), (2, .int (nI fr)), (3, .int (nI (i + 1)))] rfl ?_
          exact ih_2 (i + 1) ((upd p1 q (nI (b i)))) b1 r1 s_29 bt1 (by omega) (by omega) (fun j hj => (pk_un (by omega)).trans (hp1 j hj)) (hs3) (hrad) (hb1) (bsi_iff (bs_old (by omega) hB1 hex2 (fun t2 z => z.elim (hor i (by omega) (by omega) t2) (fun ⟨i2, y1, y2, y3⟩ => lx_last (by omega) (fun l hl => by rw [y3 l (by omega), setN_n (by omega), setN_n (by omega)]) (by rw [y3 q (Nat.le_refl _), setN_s, setN_s]; exact hb.2.2 i2 i y2 (by omega)))) c_40) (fun t2 => ⟨fun z => z.elim (fun y => y.elim Or.inl (fun ⟨i2, y1, y2, y3⟩ => Or.inr ⟨i2, y1, by omega, y3⟩)) (fun y => Or.inr ⟨i, by omega, by omega, y⟩), fun z => z.elim (fun y => Or.inl (Or.inl y)) (fun ⟨i2, y1, y2, y3⟩ => (Nat.lt_or_ge i2 i).elim (fun c => Or.inl (Or.inr ⟨i2, y1, c, y3⟩)) (fun c => Or.inr (by rw [show i = i2 by omega]; exact y3)))⟩)) (by omega)
        · refine g_aload_n F 0 rfl dX0_tryLast_43 ?_
          refine g_iload F 4 rfl dX0_tryLast_44 ?_
          refine g_put F 0 0 5 [ob e 0 [.ref m, .ref d, .ref ga, .ref pa, .ref ba, .int (nI ro_29), .int (nI s_29)], ob m 5 [.ref a, .int (nI k)], ia E a 60 f, ob d 3 [.ref ro, .ref tb, .ref ka, .int (nI kd)], ia E ka 3600 kn, ia E ga 180 gf, ia E pa 3 ((upd p1 q (nI (b i)))), ia E ba 3 b1] inX0 tyX0_ok nmX0 rfl rfl (by decide) tw_fl_X0_21 rfl rfl rfl rfl (Nat.le_of_ble_eq_true rfl) rfl dX0_tryLast_46 ?_
          refine g_aload_n F 0 rfl dX0_tryLast_49 ?_
          refine g_get F 0 0 3 inX0 rfl rfl (by decide) tw_fl_X0_15 rfl dX0_tryLast_50 ?_
          refine g_iconst F (nI 0) (by decide) dX0_tryLast_53 ?_
          refine g_aload_n F 0 rfl dX0_tryLast_54 ?_
          refine g_get F 0 0 4 inX0 rfl rfl (by decide) tw_fl_X0_18 rfl dX0_tryLast_55 ?_
          refine g_iconst F (nI 0) (by decide) dX0_tryLast_58 ?_
          refine g_iconst F (nI 3) (by decide) dX0_tryLast_59 ?_
          refine g_copy F 6 7 [ob e 0 [.ref m, .ref d, .ref ga, .ref pa, .ref ba, .int (nI ro_29), .int (nI s_29)], ob m 5 [.ref a, .int (nI k)], ia E a 60 f, ob d 3 [.ref ro, .ref tb, .ref ka, .int (nI kd)], ia E ka 3600 kn, ia E ga 180 gf, ia E pa 3 ((upd p1 q (nI (b i)))), ia E ba 3 (va_cpy ((upd p1 q (nI (b i)))) b1 0 0 3)] rfl rfl (by omega) (by omega) (by decide) (by decide) tw_ml_X0_78 (by decide) (Nat.le_of_ble_eq_true rfl) rfl dX0_tryLast_60 ?_
          refine g_iinc F (nI (i + 1)) 3 3 [(0, .ref e), (1, .int (nI q)), (2, .int (nI fr)), (3, .int (nI (i + 1))), (4, .int (nI ro_29))] [1, 2, 3, 0, 4] dX0_tryLast_63 rfl (n_inc i) (by decide) rfl ?_
          refine g_goto F 2 dX0_tryLast_66 (by decide) ?_
          refine g_lv [0, 1, 2, 3] [(0, .ref e), (1, .int (nI q)), (2, .int (nI fr)), (3, .int (nI (i + 1)))] rfl ?_
          exact ih_2 (i + 1) ((upd p1 q (nI (b i)))) (va_cpy ((upd p1 q (nI (b i)))) b1 0 0 3) ro_29 s_29 (setN t q (b i)) (by omega) (by omega) (fun j hj => (pk_un (by omega)).trans (hp1 j hj)) (hs3) (by omega) (fun _ j hj => by
          rw [pk_cpy_in (Nat.zero_le _) (by omega)]
          rw [show 0 + (j - 0) = j by omega]
          unfold upd setN
          split
          · rfl
          · exact hp1 j (by omega)) (bsi_iff (bs_new (by omega) hB1 hcdi hex2 (fun x hx => by
          obtain ⟨j, hj, e9⟩ := (hI x).mp hx
          rw [← e9]
          exact hle (by omega) j hj) c_40) (fun t2 => ⟨fun z => z.elim (fun y => y.elim Or.inl (fun ⟨i2, y1, y2, y3⟩ => Or.inr ⟨i2, y1, by omega, y3⟩)) (fun y => Or.inr ⟨i, by omega, by omega, y⟩), fun z => z.elim (fun y => Or.inl (Or.inl y)) (fun ⟨i2, y1, y2, y3⟩ => (Nat.lt_or_ge i2 i).elim (fun c => Or.inl (Or.inr ⟨i2, y1, c, y3⟩)) (fun c => Or.inr (by rw [show i = i2 by omega]; exact y3)))⟩)) (by omega)
  exact lp_2 _ fr pf bf rad sus bt (by omega) (by omega) (hpf) (hs) (by rcases hB with z | z <;> omega) (hbf) (bsi_iff hB (fun t2 => ⟨Or.inl, fun z => z.elim id (fun ⟨i2, y1, y2, y3⟩ => absurd y1 (by omega))⟩)) (Nat.lt_succ_self _)
