/-- the first i are x -/
def fl (f : Nat → Int32) (i : Nat) (x : Int32) : Nat → Int32 := fun j => if j < i then x else f j
theorem fl_0 (f : Nat → Int32) (x : Int32) : fl f 0 x = f := by
  funext j
  simp [fl]
theorem fl_upd (f : Nat → Int32) (i : Nat) (x : Int32) : upd (fl f i x) i x = fl f (i + 1) x := by
  funext j
  unfold upd fl
  by_cases h : j = i
  · subst h; simp
  · rw [if_neg h]
    by_cases h2 : j < i
    · rw [if_pos h2, if_pos (by omega)]
    · rw [if_neg h2, if_neg (by omega)]
theorem fl_at {f : Nat → Int32} {i j : Nat} {x : Int32} (h : j < i) : fl f i x j = x := by simp [fl, h]
/-- how far a and b are apart by the kind kd -/
def dsN (kd : Nat) (L : Nat → Nat) (pl : Nat → Int32) (tN : Nat → Nat) (a b : Nat) : Nat := match kd with
  | 0 => unl pl a b 8
  | 1 => edN pl a b (L a) (L b)
  | 2 => smd pl a b 8
  | 3 => grd pl a b 8
  | 4 => msn pl L a b (L a) + msn pl L b a (L b)
  | _ => tN (a * 60 + b)
theorem kd_cases {kd : Nat} (h : kd ≤ 5) : kd = 0 ∨ kd = 1 ∨ kd = 2 ∨ kd = 3 ∨ kd = 4 ∨ kd = 5 := by omega
/-- what is known of distances: nothing, or what they are -/
def KN (dd : Nat → Nat → Nat) (n : Nat) (kn : Nat → Int32) : Prop := ∀ a b, a < 60 → b < 60 → kn (a * 60 + b) = kn (b * 60 + a) ∧ (kn (a * 60 + b) = -1 ∨ (a < n ∧ b < n ∧ kn (a * 60 + b) = nI (dd a b)))
theorem ix60 {a b c d : Nat} (hb : b < 60) (hd : d < 60) (h : a * 60 + b = c * 60 + d) : a = c ∧ b = d := by omega
def rem2 (kn : Nat → Int32) (a b : Nat) (x : Int32) : Nat → Int32 := upd (upd kn (a * 60 + b) x) (b * 60 + a) x
theorem rem_at {kn : Nat → Int32} {a b c d : Nat} {x : Int32} (hb : b < 60) (ha : a < 60) (hd : d < 60) : rem2 kn a b x (c * 60 + d) = if (c = a ∧ d = b) ∨ (c = b ∧ d = a) then x else kn (c * 60 + d) := by
  unfold rem2 upd
  by_cases h1 : c * 60 + d = b * 60 + a
  · rw [if_pos h1, if_pos (Or.inr (ix60 hd ha h1))]
  · rw [if_neg h1]
    by_cases h2 : c * 60 + d = a * 60 + b
    · rw [if_pos h2, if_pos (Or.inl (ix60 hd hb h2))]
    · rw [if_neg h2, if_neg]
      rintro (⟨rfl, rfl⟩ | ⟨rfl, rfl⟩)
      · exact h2 rfl
      · exact h1 rfl
theorem kn_rem {dd : Nat → Nat → Nat} {n a b : Nat} {kn : Nat → Int32} (h : KN dd n kn) (ha : a < n) (hb : b < n) (hn : n ≤ 60) (hs : dd a b = dd b a) : KN dd n (rem2 kn a b (nI (dd a b))) := by
  intro c d hc hd
  rw [rem_at (by omega) (by omega) hd, rem_at (by omega) (by omega) hc]
  by_cases q : (c = a ∧ d = b) ∨ (c = b ∧ d = a)
  · rw [if_pos q, if_pos (by omega)]
    refine ⟨rfl, Or.inr ?_⟩
    rcases q with ⟨rfl, rfl⟩ | ⟨rfl, rfl⟩
    · exact ⟨ha, hb, rfl⟩
    · exact ⟨hb, ha, by rw [hs]⟩
  · rw [if_neg q, if_neg (by omega)]
    exact h c d hc hd
/-- the key of a pair: distance, lower, higher number -/
def pkN (dd : Nat → Nat → Nat) (a b : Nat) : Nat := dd a b * 3600 + (Nat.min a b * 60 + Nat.max a b)

set_option maxHeartbeats 4000000 in
set_option maxRecDepth 100000 in
theorem c_J7_fill_53178 (E : Ev) (a : Nat) (N : Nat) (f : Nat → Int32) (x : Int32) (hN : N < 2 ^ 31) : CTv E yJ7_fill_53178 (wq yJ7_fill_53178 cJ7_fill_53178 4 none) (rmk 0 0) [.ref a, .int x] [ia E a N f] (fun (u : Unit) => True) (fun (u : Unit) => [ia E a N (fl f N x)]) := by
  refine CTv.of (by decide) (Nat.le_of_ble_eq_true rfl) (fun X F R => ?_)
  refine g_lv [0, 1] [(0, .ref a), (1, .int x)] rfl ?_
  refine g_iconst F (nI 0) (by decide) dJ7_fill_53178_0 ?_
  refine g_istore_n F 2 [(0, .ref a), (1, .int x), (2, .int (nI 0))] [1, 2, 0] dJ7_fill_53178_1 rfl (by decide) rfl ?_
  refine g_aload_n F 0 rfl dJ7_fill_53178_2 ?_
  refine g_alen F 0 rfl dJ7_fill_53178_3 ?_
  refine g_istore_n F 3 [(0, .ref a), (1, .int x), (2, .int (nI 0)), (3, .int (nI N))] [1, 2, 3, 0] dJ7_fill_53178_4 rfl (by decide) rfl ?_
  have lp_5 : ∀ (n_5 : Nat) (i : Nat), (i ≤ N) → N - i < n_5 → GW E X 0 0 [ia E a N (fl f i x)] [(0, .ref a), (1, .int x), (2, .int (nI i)), (3, .int (nI N))] 5 [] := by
    intro n_5
    induction n_5 with
    | zero => intro i hi hm_5; exact absurd hm_5 (Nat.not_lt_zero _)
    | succ n_5 ih_5 =>
      intro i hi hm_5
      refine g_iload_n F 2 rfl dJ7_fill_53178_5 ?_
      refine g_iload_n F 3 rfl dJ7_fill_53178_6 ?_
      refine n_icmp_ge F 20 dJ7_fill_53178_7 (by decide) (by omega) (by omega) (fun c_7 => ?_) (fun c_7 => ?_)
      · obtain rfl : i = N := by omega
        exact R (()) _ _ dJ7_fill_53178_20 (trivial)
      · refine g_aload_n F 0 rfl dJ7_fill_53178_10 ?_
        refine g_iload_n F 2 rfl dJ7_fill_53178_11 ?_
        refine g_iload_n F 1 rfl dJ7_fill_53178_12 ?_
        refine g_iast F 0 [ia E a N (upd (fl f i x) i x)] rfl (by omega) (hN) rfl dJ7_fill_53178_13 ?_
        refine g_ws [ia E a N (fl f (i + 1) x)] (by rw [fl_upd]) ?_
        refine g_iinc F (nI (i + 1)) 2 2 [(0, .ref a), (1, .int x), (2, .int (nI (i + 1))), (3, .int (nI N))] [1, 2, 0, 3] dJ7_fill_53178_14 rfl (n_inc i) (by decide) rfl ?_
        refine g_goto F 5 dJ7_fill_53178_17 (by decide) ?_
        exact ih_5 (i + 1) (by omega) (by omega)
  refine g_ws [ia E a N (fl f 0 x)] (by rw [fl_0]) ?_
  exact lp_5 _ 0 (by omega) (Nat.lt_succ_self _)

set_option maxHeartbeats 4000000 in
set_option maxRecDepth 100000 in
theorem c_X3_kindAtHand (E : Ev) (d : Nat) (ro : Nat) (tb : Nat) (ka : Nat) (kn : Nat → Int32) (kd : Nat)  : RDi E yX3_kindAtHand (wq yX3_kindAtHand cX3_kindAtHand 1 (some .int)) (rmk 0 0) [.ref d] [ob d 3 [.ref ro, .ref tb, .ref ka, .int (nI kd)], ia E ka 3600 kn] (nI kd) := by
  refine CTi.of (by decide) (Nat.le_of_ble_eq_true rfl) (fun X F R => ?_)
  refine g_lv [0] [(0, .ref d)] rfl ?_
  refine g_aload_n F 0 rfl dX3_kindAtHand_0 ?_
  refine g_get F 3 0 3 inX3 rfl rfl (by decide) tw_fl_X3_15 rfl dX3_kindAtHand_1 ?_
  exact R _ (()) _ _ dX3_kindAtHand_4 (rfl)

set_option maxHeartbeats 4000000 in
set_option maxRecDepth 100000 in
theorem c_X3_useKind (E : Ev) (d : Nat) (ro : Nat) (tb : Nat) (ka : Nat) (kn : Nat → Int32) (kd : Nat) (k2 : Nat) (hk : kd ≤ 5) (hk2 : k2 ≤ 5) : CTv E yX3_useKind (wq yX3_useKind cX3_useKind 2 none) (rmk 1 23) [.ref d, .int (nI k2)] [ob d 3 [.ref ro, .ref tb, .ref ka, .int (nI kd)], ia E ka 3600 kn] (fun (u : (Nat → Int32)) => (k2 = kd ∧ u = kn) ∨ (∀ j, j < 3600 → u j = -1)) (fun (u : (Nat → Int32)) => [ob d 3 [.ref ro, .ref tb, .ref ka, .int (nI k2)], ia E ka 3600 u]) := by
  refine CTv.of (by decide) (Nat.le_of_ble_eq_true rfl) (fun X F R => ?_)
  refine g_lv [0, 1] [(0, .ref d), (1, .int (nI k2))] rfl ?_
  refine g_iload_n F 1 rfl dX3_useKind_0 ?_
  refine g_aload_n F 0 rfl dX3_useKind_1 ?_
  refine g_get F 3 0 3 inX3 rfl rfl (by decide) tw_fl_X3_15 rfl dX3_useKind_2 ?_
  refine n_icmp_eq F 21 dX3_useKind_5 (by decide) (by omega) (by omega) (fun c_5 => ?_) (fun c_5 => ?_)
  · subst c_5
    exact R kn _ _ dX3_useKind_21 (Or.inl ⟨rfl, rfl⟩)
  · refine g_aload_n F 0 rfl dX3_useKind_8 ?_
    refine g_iload_n F 1 rfl dX3_useKind_9 ?_
    refine g_put F 3 0 3 [ob d 3 [.ref ro, .ref tb, .ref ka, .int (nI k2)], ia E ka 3600 kn] inX3 tyX3_ok nmX3 rfl rfl (by decide) tw_fl_X3_15 rfl rfl rfl rfl (Nat.le_of_ble_eq_true rfl) rfl dX3_useKind_10 ?_
    refine g_aload_n F 0 rfl dX3_useKind_13 ?_
    refine g_get F 3 0 2 inX3 rfl rfl (by decide) tw_fl_X3_9 rfl dX3_useKind_14 ?_
    refine g_iconst F (-1) (by decide) dX3_useKind_17 ?_
    refine g_cSv F (wr := [ob d 3 [.ref ro, .ref tb, .ref ka, .int (nI k2)]]) [] (c_J7_fill_53178 E ka 3600 kn (-1) (by decide)) ⟨tw_ml_X3_27, tw_sm_J7_fill_53178, tw_in_J7, tw_co_J7_fill_53178⟩ 2 rfl (by decide) ⟨rfl, rfl, by decide, by decide, Nat.zero_le _, Nat.zero_le _⟩ [1] [0] [0, 1] (fun u => [ob d 3 [.ref ro, .ref tb, .ref ka, .int (nI k2)], ia E ka 3600 (fl kn 3600 (-1))]) rfl rfl (by decide) (fun _ => rfl) rfl (Nat.le_of_ble_eq_true rfl) dX3_useKind_18 (fun u hu_18 => ?_)
    exact R (fl kn 3600 (-1)) _ _ dX3_useKind_21 (Or.inr (fun j hj => fl_at hj))

set_option maxHeartbeats 4000000 in
set_option maxRecDepth 100000 in
theorem c_X3_remember (E : Ev) (d : Nat) (ro : Nat) (tb : Nat) (ka : Nat) (kn : Nat → Int32) (kd : Nat) (a : Nat) (b : Nat) (x : Int32) (ha : a < 60) (hb : b < 60) : CTv E yX3_remember (wq yX3_remember cX3_remember 4 none) (rmk 0 0) [.ref d, .int (nI a), .int (nI b), .int x] [ob d 3 [.ref ro, .ref tb, .ref ka, .int (nI kd)], ia E ka 3600 kn] (fun (u : Unit) => True) (fun (u : Unit) => [ob d 3 [.ref ro, .ref tb, .ref ka, .int (nI kd)], ia E ka 3600 (rem2 kn a b x)]) := by
  refine CTv.of (by decide) (Nat.le_of_ble_eq_true rfl) (fun X F R => ?_)
  refine g_lv [0, 1, 2, 3] [(0, .ref d), (1, .int (nI a)), (2, .int (nI b)), (3, .int x)] rfl ?_
  refine g_aload_n F 0 rfl dX3_remember_0 ?_
  refine g_get F 3 0 2 inX3 rfl rfl (by decide) tw_fl_X3_9 rfl dX3_remember_1 ?_
  refine g_iload_n F 1 rfl dX3_remember_4 ?_
  refine g_bipush F (nI 60) (by decide) dX3_remember_5 ?_
  refine n_mul F dX3_remember_7 ?_
  refine g_iload_n F 2 rfl dX3_remember_8 ?_
  refine n_add F dX3_remember_9 ?_
  refine g_iload_n F 3 rfl dX3_remember_10 ?_
  refine g_iast F 1 [ob d 3 [.ref ro, .ref tb, .ref ka, .int (nI kd)], ia E ka 3600 (upd kn ((a * 60) + b) x)] rfl (by omega) (by decide) rfl dX3_remember_11 ?_
  refine g_aload_n F 0 rfl dX3_remember_12 ?_
  refine g_get F 3 0 2 inX3 rfl rfl (by decide) tw_fl_X3_9 rfl dX3_remember_13 ?_
  refine g_iload_n F 2 rfl dX3_remember_16 ?_
  refine g_bipush F (nI 60) (by decide) dX3_remember_17 ?_
  refine n_mul F dX3_remember_19 ?_
  refine g_iload_n F 1 rfl dX3_remember_20 ?_
  refine n_add F dX3_remember_21 ?_
  refine g_iload_n F 3 rfl dX3_remember_22 ?_
  refine g_iast F 1 [ob d 3 [.ref ro, .ref tb, .ref ka, .int (nI kd)], ia E ka 3600 (upd (upd kn ((a * 60) + b) x) ((b * 60) + a) x)] rfl (by omega) (by decide) rfl dX3_remember_23 ?_
  exact R (()) _ _ dX3_remember_24 (trivial)

set_option maxHeartbeats 4000000 in
set_option maxRecDepth 100000 in
theorem c_X3_forgetPair (E : Ev) (d : Nat) (ro : Nat) (tb : Nat) (ka : Nat) (kn : Nat → Int32) (kd : Nat) (a : Nat) (b : Nat) (ha : a < 60) (hb : b < 60) : CTv E yX3_forgetPair (wq yX3_forgetPair cX3_forgetPair 3 none) (rmk 1 23) [.ref d, .int (nI a), .int (nI b)] [ob d 3 [.ref ro, .ref tb, .ref ka, .int (nI kd)], ia E ka 3600 kn] (fun (u : Unit) => True) (fun (u : Unit) => [ob d 3 [.ref ro, .ref tb, .ref ka, .int (nI kd)], ia E ka 3600 (rem2 kn a b (-1))]) := by
  refine CTv.of (by decide) (Nat.le_of_ble_eq_true rfl) (fun X F R => ?_)
  refine g_lv [0, 1, 2] [(0, .ref d), (1, .int (nI a)), (2, .int (nI b))] rfl ?_
  refine g_aload_n F 0 rfl dX3_forgetPair_0 ?_
  refine g_iload_n F 1 rfl dX3_forgetPair_1 ?_
  refine g_iload_n F 2 rfl dX3_forgetPair_2 ?_
  refine g_iconst F (-1) (by decide) dX3_forgetPair_3 ?_
  refine g_cVv F (wr := []) [] (c_X3_remember E d ro tb ka kn kd a b (-1) (by omega) (by omega)) (gi_V tw_ml_X3_33 tw_im_X3_remember tw_se_X3_remember tw_in_X3 tw_co_X3_remember) 3 rfl (by decide) ⟨rfl, rfl, by decide, by decide, Nat.zero_le _, Nat.zero_le _⟩ 3 0 rfl rfl [0, 1] [] [0, 1] (fun u => [ob d 3 [.ref ro, .ref tb, .ref ka, .int (nI kd)], ia E ka 3600 (rem2 kn a b (-1))]) rfl rfl (by decide) (fun _ => rfl) rfl (Nat.le_of_ble_eq_true rfl) dX3_forgetPair_4 (fun u hu_4 => ?_)
  exact R (()) _ _ dX3_forgetPair_7 (trivial)

set_option maxHeartbeats 4000000 in
set_option maxRecDepth 100000 in
theorem c_X3_forgetAllOf (E : Ev) (d : Nat) (ro : Nat) (tb : Nat) (ka : Nat) (kn : Nat → Int32) (kd : Nat) (t : Nat) (ht : t < 60) : CTv E yX3_forgetAllOf (wq yX3_forgetAllOf cX3_forgetAllOf 3 none) (rmk 1 23) [.ref d, .int (nI t)] [ob d 3 [.ref ro, .ref tb, .ref ka, .int (nI kd)], ia E ka 3600 kn] (fun (u : (Nat → Int32)) => ∀ a b, a < 60 → b < 60 → u (a * 60 + b) = if a = t ∨ b = t then -1 else kn (a * 60 + b)) (fun (u : (Nat → Int32)) => [ob d 3 [.ref ro, .ref tb, .ref ka, .int (nI kd)], ia E ka 3600 u]) := by
  refine CTv.of (by decide) (Nat.le_of_ble_eq_true rfl) (fun X F R => ?_)
  refine g_lv [0, 1] [(0, .ref d), (1, .int (nI t))] rfl ?_
  refine g_iconst F (nI 0) (by decide) dX3_forgetAllOf_0 ?_
  refine g_istore_n F 2 [(0, .ref d), (1, .int (nI t)), (2, .int (nI 0))] [1, 2, 0] dX3_forgetAllOf_1 rfl (by decide) rfl ?_
  have lp_2 : ∀ (n_2 : Nat) (i : Nat) (g : Nat → Int32), (i ≤ 60) → (∀ a b, a < 60 → b < 60 → g (a * 60 + b) = if (a = t ∧ b < i) ∨ (b = t ∧ a < i) then -1 else kn (a * 60 + b)) → 60 - i < n_2 → GW E X 0 0 [ob d 3 [.ref ro, .ref tb, .ref ka, .int (nI kd)], ia E ka 3600 g] [(0, .ref d), (1, .int (nI t)), (2, .int (nI i))] 2 [] := by
    intro n_2
    induction n_2 with
    | zero => intro i g hi hg hm_2; exact absurd hm_2 (Nat.not_lt_zero _)
    | succ n_2 ih_2 =>
      intro i g hi hg hm_2
      refine g_iload_n F 2 rfl dX3_forgetAllOf_2 ?_
      refine g_bipush F (nI 60) (by decide) dX3_forgetAllOf_3 ?_
      refine n_icmp_ge F 21 dX3_forgetAllOf_5 (by decide) (by omega) (by omega) (fun c_5 => ?_) (fun c_5 => ?_)
      · exact R g _ _ dX3_forgetAllOf_21 (fun a b qa qb => by
        rw [hg a b qa qb]
        by_cases c1 : a = t ∨ b = t
        · rw [if_pos c1, if_pos (by omega)]
        · rw [if_neg c1, if_neg (by omega)])
      · refine g_aload_n F 0 rfl dX3_forgetAllOf_8 ?_
        refine g_iload_n F 1 rfl dX3_forgetAllOf_9 ?_
        refine g_iload_n F 2 rfl dX3_forgetAllOf_10 ?_
        refine g_iconst F (-1) (by decide) dX3_forgetAllOf_11 ?_
        refine g_cVv F (wr := []) [] (c_X3_remember E d ro tb ka g kd t i (-1) (by omega) (by omega)) (gi_V tw_ml_X3_33 tw_im_X3_remember tw_se_X3_remember tw_in_X3 tw_co_X3_remember) 3 rfl (by decide) ⟨rfl, rfl, by decide, by decide, Nat.zero_le _, Nat.zero_le _⟩ 3 0 rfl rfl [0, 1] [] [0, 1] (fun u => [ob d 3 [.ref ro, .ref tb, .ref ka, .int (nI kd)], ia E ka 3600 (rem2 g t i (-1))]) rfl rfl (by decide) (fun _ => rfl) rfl (Nat.le_of_ble_eq_true rfl) dX3_forgetAllOf_12 (fun u hu_12 => ?_)
        refine g_iinc F (nI (i + 1)) 2 2 [(0, .ref d), (1, .int (nI t)), (2, .int (nI (i + 1)))] [1, 2, 0] dX3_forgetAllOf_15 rfl (n_inc i) (by decide) rfl ?_
        refine g_goto F 2 dX3_forgetAllOf_18 (by decide) ?_
        exact ih_2 (i + 1) (rem2 g t i (-1)) (by omega) (fun a b qa qb => by
          rw [rem_at (by omega) ht qb, hg a b qa qb]
          by_cases c1 : (a = t ∧ b = i) ∨ (a = i ∧ b = t)
          · rw [if_pos c1, if_pos (by omega)]
          · rw [if_neg c1]
            by_cases c2 : (a = t ∧ b < i) ∨ (b = t ∧ a < i)
            · rw [if_pos c2, if_pos (by omega)]
            · rw [if_neg c2, if_neg (by omega)]) (by omega)
  exact lp_2 _ 0 kn (by omega) (fun a b _ _ => by rw [if_neg (by omega)]) (Nat.lt_succ_self _)

set_option maxHeartbeats 4000000 in
set_option maxRecDepth 100000 in
theorem c_X3_at (E : Ev) (d : Nat) (ro : Nat) (tb : Nat) (ka : Nat) (kn : Nat → Int32) (kd : Nat) (dd : Nat → Nat → Nat) (a : Nat) (b : Nat) (ha : a < 60) (hb : b < 60) (hk : kn (a * 60 + b) = nI (dd a b)) : RDi E yX3_at (wq yX3_at cX3_at 3 (some .int)) (rmk 0 0) [.ref d, .int (nI a), .int (nI b)] [ob d 3 [.ref ro, .ref tb, .ref ka, .int (nI kd)], ia E ka 3600 kn] (nI (dd a b)) := by
  refine CTi.of (by decide) (Nat.le_of_ble_eq_true rfl) (fun X F R => ?_)
  refine g_lv [0, 1, 2] [(0, .ref d), (1, .int (nI a)), (2, .int (nI b))] rfl ?_
  refine g_aload_n F 0 rfl dX3_at_0 ?_
  refine g_get F 3 0 2 inX3 rfl rfl (by decide) tw_fl_X3_9 rfl dX3_at_1 ?_
  refine g_iload_n F 1 rfl dX3_at_4 ?_
  refine g_bipush F (nI 60) (by decide) dX3_at_5 ?_
  refine n_mul F dX3_at_7 ?_
  refine g_iload_n F 2 rfl dX3_at_8 ?_
  refine n_add F dX3_at_9 ?_
  refine g_iald F 1 rfl (by omega) (by decide) dX3_at_10 ?_
  refine g_top (nI (dd a b)) (hk) ?_
  exact R _ (()) _ _ dX3_at_11 (rfl)

set_option maxHeartbeats 4000000 in
set_option maxRecDepth 100000 in
theorem c_X3_pairKey (E : Ev) (d : Nat) (ro : Nat) (tb : Nat) (ka : Nat) (kn : Nat → Int32) (kd : Nat) (dd : Nat → Nat → Nat) (a : Nat) (b : Nat) (ha : a < 60) (hb : b < 60) (hk : kn (a * 60 + b) = nI (dd a b)) : RDi E yX3_pairKey (wq yX3_pairKey cX3_pairKey 4 (some .int)) (rmk 1 22) [.ref d, .int (nI a), .int (nI b)] [ob d 3 [.ref ro, .ref tb, .ref ka, .int (nI kd)], ia E ka 3600 kn] (nI (pkN dd a b)) := by
  refine CTi.of (by decide) (Nat.le_of_ble_eq_true rfl) (fun X F R => ?_)
  refine g_lv [0, 1, 2] [(0, .ref d), (1, .int (nI a)), (2, .int (nI b))] rfl ?_
  refine g_iload_n F 1 rfl dX3_pairKey_0 ?_
  refine g_iload_n F 2 rfl dX3_pairKey_1 ?_
  refine g_mmin F tw_ml_X3_53 (by decide) (Nat.le_of_ble_eq_true rfl) (Nat.zero_le _) (Nat.zero_le _) dX3_pairKey_2 ?_
  refine g_top _ (n_min a b (by omega) (by omega)) ?_
  refine g_bipush F (nI 60) (by decide) dX3_pairKey_5 ?_
  refine n_mul F dX3_pairKey_7 ?_
  refine g_iload_n F 1 rfl dX3_pairKey_8 ?_
  refine g_iload_n F 2 rfl dX3_pairKey_9 ?_
  refine g_mmax F tw_ml_X3_58 (by decide) (Nat.le_of_ble_eq_true rfl) (Nat.zero_le _) (Nat.zero_le _) dX3_pairKey_10 ?_
  refine g_top _ (n_max a b (by omega) (by omega)) ?_
  refine n_add F dX3_pairKey_13 ?_
  refine g_istore_n F 3 [(0, .ref d), (1, .int (nI a)), (2, .int (nI b)), (3, .int (nI (((Nat.min a b) * 60) + (Nat.max a b))))] [1, 2, 3, 0] dX3_pairKey_14 rfl (by decide) rfl ?_
  refine g_aload_n F 0 rfl dX3_pairKey_15 ?_
  refine g_iload_n F 1 rfl dX3_pairKey_16 ?_
  refine g_iload_n F 2 rfl dX3_pairKey_17 ?_
  refine g_rVi F (wr := []) [] (c_X3_at E d ro tb ka kn kd dd a b (ha) (hb) (hk)) (gi_V tw_ml_X3_61 tw_im_X3_at tw_se_X3_at tw_in_X3 tw_co_X3_at) 2 rfl (by decide) ⟨rfl, rfl, by decide, by decide, Nat.zero_le _, Nat.zero_le _⟩ 3 0 rfl rfl [0, 1] [] [0, 1] rfl rfl (by decide) rfl rfl (Nat.le_of_ble_eq_true rfl) dX3_pairKey_18 ?_
  refine g_sipush F (nI 3600) (by decide) dX3_pairKey_21 ?_
  refine n_mul F dX3_pairKey_24 ?_
  refine g_iload_n F 3 rfl dX3_pairKey_25 ?_
  refine n_add F dX3_pairKey_26 ?_
  exact R _ (()) _ _ dX3_pairKey_27 (rfl)

set_option maxHeartbeats 4000000 in
set_option maxRecDepth 100000 in
theorem c_X3_measure (E : Ev) (d : Nat) (ka : Nat) (kn : Nat → Int32) (kd : Nat) (ro : Nat) (la : Nat) (pa : Nat) (na : Nat) (ln : Nat → Int32) (pl : Nat → Int32) (li : Nat → Int32) (n : Nat) (tb : Nat) (ta : Nat) (ba : Nat) (td : Nat → Int32) (br : Nat → Int32) (brk : Int32) (chk : Int32) (L : Nat → Nat) (tN : Nat → Nat) (a : Nat) (b : Nat) (hv : VR pl) (hL : LR ln L) (ht : TR td tN) (hkd : kd ≤ 5) (ha : a < 60) (hb : b < 60) : CTi E yX3_measure (wq yX3_measure cX3_measure 3 (some .int)) (rmk 3 68) [.ref d, .int (nI a), .int (nI b)] [ob d 3 [.ref ro, .ref tb, .ref ka, .int (nI kd)], ia E ka 3600 kn, ob ro 8 [.ref la, .ref pa, .ref na, .int (nI n)], ia E la 60 ln, ia E pa 480 pl, ia E na 9 li, ob tb 9 [.ref ta, .ref ba, .int brk, .int chk], ia E ta 3600 td, ia E ba 3 br] (fun (r : Int32) (u : (Nat → Int32)) => r = nI (dsN kd L pl tN a b)) (fun (u : (Nat → Int32)) => [ob d 3 [.ref ro, .ref tb, .ref ka, .int (nI kd)], ia E ka 3600 kn, ob ro 8 [.ref la, .ref pa, .ref na, .int (nI n)], ia E la 60 ln, ia E pa 480 pl, ia E na 9 u, ob tb 9 [.ref ta, .ref ba, .int brk, .int chk], ia E ta 3600 td, ia E ba 3 br]) := by
  refine CTi.of (by decide) (Nat.le_of_ble_eq_true rfl) (fun X F R => ?_)
  refine g_lv [0, 1, 2] [(0, .ref d), (1, .int (nI a)), (2, .int (nI b))] rfl ?_
  refine g_aload_n F 0 rfl dX3_measure_0 ?_
  refine g_get F 3 0 3 inX3 rfl rfl (by decide) tw_fl_X3_15 rfl dX3_measure_1 ?_
  rcases kd_cases hkd with rfl | rfl | rfl | rfl | rfl | rfl
  · refine g_tabOut F 100 dX3_measure_4 (by decide) (by decide) ?_
    refine g_aload_n F 0 rfl dX3_measure_100 ?_
    refine g_get F 3 0 0 inX3 rfl rfl (by decide) tw_fl_X3_19 rfl dX3_measure_101 ?_
    refine g_iload_n F 1 rfl dX3_measure_104 ?_
    refine g_iload_n F 2 rfl dX3_measure_105 ?_
    refine g_rVi F (wr := [ob d 3 [.ref ro, .ref tb, .ref ka, .int (nI 0)], ia E ka 3600 kn, ob tb 9 [.ref ta, .ref ba, .int brk, .int chk], ia E ta 3600 td, ia E ba 3 br]) [] (c_X8_unlikePlaces E ro la pa na ln pl li n a b (hv) (ha) (hb)) (gi_V tw_ml_X3_79 tw_im_X8_unlikePlaces tw_se_X8_unlikePlaces tw_in_X8 tw_co_X8_unlikePlaces) 2 rfl (by decide) ⟨rfl, rfl, by decide, by decide, Nat.zero_le _, Nat.zero_le _⟩ 8 0 rfl rfl [2, 3, 4, 5] [0, 1, 6, 7, 8] [0, 1, 5, 6, 7, 8, 2, 3, 4] rfl rfl (by decide) rfl rfl (Nat.le_of_ble_eq_true rfl) dX3_measure_106 ?_
    exact R _ li _ _ dX3_measure_109 (rfl)
  · refine g_tabIn F 40 (36) dX3_measure_4 (by decide) (by decide) (by decide) (by decide) ?_
    refine g_aload_n F 0 rfl dX3_measure_40 ?_
    refine g_get F 3 0 0 inX3 rfl rfl (by decide) tw_fl_X3_19 rfl dX3_measure_41 ?_
    refine g_iload_n F 1 rfl dX3_measure_44 ?_
    refine g_iload_n F 2 rfl dX3_measure_45 ?_
    refine g_cVi F (wr := [ob d 3 [.ref ro, .ref tb, .ref ka, .int (nI 1)], ia E ka 3600 kn, ob tb 9 [.ref ta, .ref ba, .int brk, .int chk], ia E ta 3600 td, ia E ba 3 br]) [] (c_X8_fewestEdits E ro la pa na ln pl li n L a b (hL) (ha) (hb)) (gi_V tw_ml_X3_64 tw_im_X8_fewestEdits tw_se_X8_fewestEdits tw_in_X8 tw_co_X8_fewestEdits) 2 rfl (by decide) ⟨rfl, rfl, by decide, by decide, Nat.zero_le _, Nat.zero_le _⟩ 8 0 rfl rfl [2, 3, 4, 5] [0, 1, 6, 7, 8] [0, 1, 5, 6, 7, 8, 2, 3, 4] (fun u => [ob d 3 [.ref ro, .ref tb, .ref ka, .int (nI 1)], ia E ka 3600 kn, ob ro 8 [.ref la, .ref pa, .ref na, .int (nI n)], ia E la 60 ln, ia E pa 480 pl, ia E na 9 u, ob tb 9 [.ref ta, .ref ba, .int brk, .int chk], ia E ta 3600 td, ia E ba 3 br]) rfl rfl (by decide) (fun _ => rfl) rfl (Nat.le_of_ble_eq_true rfl) dX3_measure_46 (fun r_46 u hu_46 => ?_)
    revert hu_46; revert u; intro li2_46 hu_46
    subst hu_46
    exact R _ li2_46 _ _ dX3_measure_49 (rfl)
  · refine g_tabIn F 50 (46) dX3_measure_4 (by decide) (by decide) (by decide) (by decide) ?_
    refine g_aload_n F 0 rfl dX3_measure_50 ?_
    refine g_get F 3 0 0 inX3 rfl rfl (by decide) tw_fl_X3_19 rfl dX3_measure_51 ?_
    refine g_iload_n F 1 rfl dX3_measure_54 ?_
    refine g_iload_n F 2 rfl dX3_measure_55 ?_
    refine g_rVi F (wr := [ob d 3 [.ref ro, .ref tb, .ref ka, .int (nI 2)], ia E ka 3600 kn, ob tb 9 [.ref ta, .ref ba, .int brk, .int chk], ia E ta 3600 td, ia E ba 3 br]) [] (c_X8_sumOfDifferences E ro la pa na ln pl li n a b (hv) (ha) (hb)) (gi_V tw_ml_X3_67 tw_im_X8_sumOfDifferences tw_se_X8_sumOfDifferences tw_in_X8 tw_co_X8_sumOfDifferences) 2 rfl (by decide) ⟨rfl, rfl, by decide, by decide, Nat.zero_le _, Nat.zero_le _⟩ 8 0 rfl rfl [2, 3, 4, 5] [0, 1, 6, 7, 8] [0, 1, 5, 6, 7, 8, 2, 3, 4] rfl rfl (by decide) rfl rfl (Nat.le_of_ble_eq_true rfl) dX3_measure_56 ?_
    exact R _ li _ _ dX3_measure_59 (rfl)
  · refine g_tabIn F 60 (56) dX3_measure_4 (by decide) (by decide) (by decide) (by decide) ?_
    refine g_aload_n F 0 rfl dX3_measure_60 ?_
    refine g_get F 3 0 0 inX3 rfl rfl (by decide) tw_fl_X3_19 rfl dX3_measure_61 ?_
    refine g_iload_n F 1 rfl dX3_measure_64 ?_
    refine g_iload_n F 2 rfl dX3_measure_65 ?_
    refine g_rVi F (wr := [ob d 3 [.ref ro, .ref tb, .ref ka, .int (nI 3)], ia E ka 3600 kn, ob tb 9 [.ref ta, .ref ba, .int brk, .int chk], ia E ta 3600 td, ia E ba 3 br]) [] (c_X8_greatestDifference E ro la pa na ln pl li n a b (hv) (ha) (hb)) (gi_V tw_ml_X3_70 tw_im_X8_greatestDifference tw_se_X8_greatestDifference tw_in_X8 tw_co_X8_greatestDifference) 2 rfl (by decide) ⟨rfl, rfl, by decide, by decide, Nat.zero_le _, Nat.zero_le _⟩ 8 0 rfl rfl [2, 3, 4, 5] [0, 1, 6, 7, 8] [0, 1, 5, 6, 7, 8, 2, 3, 4] rfl rfl (by decide) rfl rfl (Nat.le_of_ble_eq_true rfl) dX3_measure_66 ?_
    exact R _ li _ _ dX3_measure_69 (rfl)
  · refine g_tabIn F 70 (66) dX3_measure_4 (by decide) (by decide) (by decide) (by decide) ?_
    refine g_aload_n F 0 rfl dX3_measure_70 ?_
    refine g_get F 3 0 0 inX3 rfl rfl (by decide) tw_fl_X3_19 rfl dX3_measure_71 ?_
    refine g_iload_n F 1 rfl dX3_measure_74 ?_
    refine g_iload_n F 2 rfl dX3_measure_75 ?_
    refine g_rVi F (wr := [ob d 3 [.ref ro, .ref tb, .ref ka, .int (nI 4)], ia E ka 3600 kn, ob tb 9 [.ref ta, .ref ba, .int brk, .int chk], ia E ta 3600 td, ia E ba 3 br]) [] (c_X8_valuesMissing E ro la pa na ln pl li n L a b (hL) (ha) (hb)) (gi_V tw_ml_X3_73 tw_im_X8_valuesMissing tw_se_X8_valuesMissing tw_in_X8 tw_co_X8_valuesMissing) 2 rfl (by decide) ⟨rfl, rfl, by decide, by decide, Nat.zero_le _, Nat.zero_le _⟩ 8 0 rfl rfl [2, 3, 4, 5] [0, 1, 6, 7, 8] [0, 1, 5, 6, 7, 8, 2, 3, 4] rfl rfl (by decide) rfl rfl (Nat.le_of_ble_eq_true rfl) dX3_measure_76 ?_
    refine g_aload_n F 0 rfl dX3_measure_79 ?_
    refine g_get F 3 0 0 inX3 rfl rfl (by decide) tw_fl_X3_19 rfl dX3_measure_80 ?_
    refine g_iload_n F 2 rfl dX3_measure_83 ?_
    refine g_iload_n F 1 rfl dX3_measure_84 ?_
    refine g_rVi F (wr := [ob d 3 [.ref ro, .ref tb, .ref ka, .int (nI 4)], ia E ka 3600 kn, ob tb 9 [.ref ta, .ref ba, .int brk, .int chk], ia E ta 3600 td, ia E ba 3 br]) [.int (nI (msn pl L a b (L a)))] (c_X8_valuesMissing E ro la pa na ln pl li n L b a (hL) (hb) (ha)) (gi_V tw_ml_X3_73 tw_im_X8_valuesMissing tw_se_X8_valuesMissing tw_in_X8 tw_co_X8_valuesMissing) 2 rfl (by decide) ⟨rfl, rfl, by decide, by decide, Nat.zero_le _, Nat.zero_le _⟩ 8 0 rfl rfl [2, 3, 4, 5] [0, 1, 6, 7, 8] [0, 1, 5, 6, 7, 8, 2, 3, 4] rfl rfl (by decide) rfl rfl (Nat.le_of_ble_eq_true rfl) dX3_measure_85 ?_
    refine n_add F dX3_measure_88 ?_
    exact R _ li _ _ dX3_measure_89 (rfl)
  · refine g_tabIn F 90 (86) dX3_measure_4 (by decide) (by decide) (by decide) (by decide) ?_
    refine g_aload_n F 0 rfl dX3_measure_90 ?_
    refine g_get F 3 0 1 inX3 rfl rfl (by decide) tw_fl_X3_23 rfl dX3_measure_91 ?_
    refine g_iload_n F 1 rfl dX3_measure_94 ?_
    refine g_iload_n F 2 rfl dX3_measure_95 ?_
    refine g_rVi F (wr := [ob d 3 [.ref ro, .ref tb, .ref ka, .int (nI 5)], ia E ka 3600 kn, ob ro 8 [.ref la, .ref pa, .ref na, .int (nI n)], ia E la 60 ln, ia E pa 480 pl, ia E na 9 li]) [] (c_X9_read E tb ta ba td br brk chk tN a b (ht) (ha) (hb)) (gi_V tw_ml_X3_76 tw_im_X9_read tw_se_X9_read tw_in_X9 tw_co_X9_read) 2 rfl (by decide) ⟨rfl, rfl, by decide, by decide, Nat.zero_le _, Nat.zero_le _⟩ 9 0 rfl rfl [6, 7, 8] [0, 1, 2, 3, 4, 5] [0, 1, 2, 3, 4, 5, 6, 7, 8] rfl rfl (by decide) rfl rfl (Nat.le_of_ble_eq_true rfl) dX3_measure_96 ?_
    exact R _ li _ _ dX3_measure_99 (rfl)

set_option maxHeartbeats 4000000 in
set_option maxRecDepth 100000 in
theorem c_X3_lawHolds (E : Ev) (d : Nat) (ka : Nat) (kn : Nat → Int32) (kd : Nat) (ro : Nat) (la : Nat) (pa : Nat) (na : Nat) (ln : Nat → Int32) (pl : Nat → Int32) (li : Nat → Int32) (n : Nat) (tb : Nat) (ta : Nat) (ba : Nat) (td : Nat → Int32) (br : Nat → Int32) (brk : Int32) (chk : Int32) (L : Nat → Nat) (tN : Nat → Nat) (ht : TR td tN) (hs : SY tN) (hn : n ≤ 60) (hkd : kd ≤ 5) (hT : TBk tN br brk chk) : CTi E yX3_lawHolds (wq yX3_lawHolds cX3_lawHolds 1 (some .boolean)) (rmk 3 72) [.ref d] [ob d 3 [.ref ro, .ref tb, .ref ka, .int (nI kd)], ia E ka 3600 kn, ob ro 8 [.ref la, .ref pa, .ref na, .int (nI n)], ia E la 60 ln, ia E pa 480 pl, ia E na 9 li, ob tb 9 [.ref ta, .ref ba, .int brk, .int chk], ia E ta 3600 td, ia E ba 3 br] (fun (r : Int32) (u : (Nat → Int32) × Int32 × Int32) => TBk tN u.1 u.2.1 u.2.2 ∧ ((r = 1 ∧ (kd = 5 → LW tN n)) ∨ (r = 0 ∧ kd = 5 ∧ TBr tN u.1 n))) (fun (u : (Nat → Int32) × Int32 × Int32) => [ob d 3 [.ref ro, .ref tb, .ref ka, .int (nI kd)], ia E ka 3600 kn, ob ro 8 [.ref la, .ref pa, .ref na, .int (nI n)], ia E la 60 ln, ia E pa 480 pl, ia E na 9 li, ob tb 9 [.ref ta, .ref ba, .int u.2.1, .int u.2.2], ia E ta 3600 td, ia E ba 3 u.1]) := by
  refine CTi.ofZ (by decide) (Nat.le_of_ble_eq_true rfl) (fun X F R => ?_)
  refine g_lv [0] [(0, .ref d)] rfl ?_
  refine g_aload_n F 0 rfl dX3_lawHolds_0 ?_
  refine g_get F 3 0 3 inX3 rfl rfl (by decide) tw_fl_X3_15 rfl dX3_lawHolds_1 ?_
  refine g_iconst F (nI 5) (by decide) dX3_lawHolds_4 ?_
  refine n_icmp_ne F 25 dX3_lawHolds_5 (by decide) (by omega) (by omega) (fun c_5 => ?_) (fun c_5 => ?_)
  · refine g_iconst F (nI 1) (by decide) dX3_lawHolds_25 ?_
    refine g_goto F 30 dX3_lawHolds_26 (by decide) ?_
    exact R _ ((br, brk, chk)) _ _ dX3_lawHolds_30 (Or.inr rfl) (by (try dsimp only); exact (⟨hT, Or.inl ⟨rfl, fun z => absurd z c_5⟩⟩))
  · refine g_aload_n F 0 rfl dX3_lawHolds_8 ?_
    refine g_get F 3 0 1 inX3 rfl rfl (by decide) tw_fl_X3_23 rfl dX3_lawHolds_9 ?_
    refine g_aload_n F 0 rfl dX3_lawHolds_12 ?_
    refine g_get F 3 0 0 inX3 rfl rfl (by decide) tw_fl_X3_19 rfl dX3_lawHolds_13 ?_
    refine g_rVi F (wr := [ob d 3 [.ref ro, .ref tb, .ref ka, .int (nI kd)], ia E ka 3600 kn, ob tb 9 [.ref ta, .ref ba, .int brk, .int chk], ia E ta 3600 td, ia E ba 3 br]) [.ref tb] (c_X8_size E ro la pa na ln pl li n ) (gi_V tw_ml_X3_37 tw_im_X8_size tw_se_X8_size tw_in_X8 tw_co_X8_size) 0 rfl (by decide) ⟨rfl, rfl, by decide, by decide, Nat.zero_le _, Nat.zero_le _⟩ 8 0 rfl rfl [2, 3, 4, 5] [0, 1, 6, 7, 8] [0, 1, 5, 6, 7, 8, 2, 3, 4] rfl rfl (by decide) rfl rfl (Nat.le_of_ble_eq_true rfl) dX3_lawHolds_16 ?_
    refine g_cVi F (wr := [ob d 3 [.ref ro, .ref tb, .ref ka, .int (nI kd)], ia E ka 3600 kn, ob ro 8 [.ref la, .ref pa, .ref na, .int (nI n)], ia E la 60 ln, ia E pa 480 pl, ia E na 9 li]) [] (c_X9_lawHolds E tb ta ba td br brk chk tN n (ht) (hs) (hn) (hT)) (gi_V tw_ml_X3_43 tw_im_X9_lawHolds tw_se_X9_lawHolds tw_in_X9 tw_co_X9_lawHolds) 1 rfl (by decide) ⟨rfl, rfl, by decide, by decide, Nat.zero_le _, Nat.zero_le _⟩ 9 0 rfl rfl [6, 7, 8] [0, 1, 2, 3, 4, 5] [0, 1, 2, 3, 4, 5, 6, 7, 8] (fun u => [ob d 3 [.ref ro, .ref tb, .ref ka, .int (nI kd)], ia E ka 3600 kn, ob ro 8 [.ref la, .ref pa, .ref na, .int (nI n)], ia E la 60 ln, ia E pa 480 pl, ia E na 9 li, ob tb 9 [.ref ta, .ref ba, .int u.2, .int (nI n)], ia E ta 3600 td, ia E ba 3 u.1]) rfl rfl (by decide) (fun _ => rfl) rfl (Nat.le_of_ble_eq_true rfl) dX3_lawHolds_19 (fun r_19 u hu_19 => ?_)
    obtain ⟨br2_19, bk2_19⟩ := u
    refine g_ws [ob d 3 [.ref ro, .ref tb, .ref ka, .int (nI kd)], ia E ka 3600 kn, ob ro 8 [.ref la, .ref pa, .ref na, .int (nI n)], ia E la 60 ln, ia E pa 480 pl, ia E na 9 li, ob tb 9 [.ref ta, .ref ba, .int bk2_19, .int (nI n)], ia E ta 3600 td, ia E ba 3 br2_19] rfl ?_
    dsimp only at hu_19
    rcases hu_19 with ⟨rfl, rfl, h_19⟩ | ⟨rfl, rfl, h_19⟩
    · refine g_if_eq F 29 dX3_lawHolds_22 (by decide) (fun h => absurd h (by decide)) (fun _ => ?_)
      refine g_iconst F (nI 1) (by decide) dX3_lawHolds_25 ?_
      refine g_goto F 30 dX3_lawHolds_26 (by decide) ?_
      exact R _ ((br2_19, 0, nI n)) _ _ dX3_lawHolds_30 (Or.inr rfl) (by (try dsimp only); exact (⟨Or.inr ⟨n, hn, rfl, Or.inl ⟨rfl, h_19⟩⟩, Or.inl ⟨rfl, fun _ => h_19⟩⟩))
    · refine g_if_eq F 29 dX3_lawHolds_22 (by decide) (fun _ => ?_) (fun h => absurd (by decide) h)
      refine g_iconst F (nI 0) (by decide) dX3_lawHolds_29 ?_
      exact R _ ((br2_19, 1, nI n)) _ _ dX3_lawHolds_30 (Or.inl rfl) (by (try dsimp only); exact (⟨Or.inr ⟨n, hn, rfl, Or.inr ⟨rfl, h_19⟩⟩, Or.inr ⟨rfl, c_5, h_19⟩⟩))

set_option maxHeartbeats 4000000 in
set_option maxRecDepth 100000 in
theorem c_X3_between (E : Ev) (d : Nat) (ka : Nat) (kn : Nat → Int32) (kd : Nat) (ro : Nat) (la : Nat) (pa : Nat) (na : Nat) (ln : Nat → Int32) (pl : Nat → Int32) (li : Nat → Int32) (n : Nat) (tb : Nat) (ta : Nat) (ba : Nat) (td : Nat → Int32) (br : Nat → Int32) (brk : Int32) (chk : Int32) (L : Nat → Nat) (tN : Nat → Nat) (a : Nat) (b : Nat) (hv : VR pl) (hL : LR ln L) (ht : TR td tN) (hkd : kd ≤ 5) (hn : n ≤ 60) (ha : a < n) (hb : b < n) (hK : KN (dsN kd L pl tN) n kn) (hsy : dsN kd L pl tN a b = dsN kd L pl tN b a) : CTi E yX3_between (wq yX3_between cX3_between 4 (some .int)) (rmk 4 90) [.ref d, .int (nI a), .int (nI b)] [ob d 3 [.ref ro, .ref tb, .ref ka, .int (nI kd)], ia E ka 3600 kn, ob ro 8 [.ref la, .ref pa, .ref na, .int (nI n)], ia E la 60 ln, ia E pa 480 pl, ia E na 9 li, ob tb 9 [.ref ta, .ref ba, .int brk, .int chk], ia E ta 3600 td, ia E ba 3 br] (fun (r : Int32) (u : (Nat → Int32) × (Nat → Int32)) => r = nI (dsN kd L pl tN a b) ∧ KN (dsN kd L pl tN) n u.2 ∧ u.2 (a * 60 + b) = nI (dsN kd L pl tN a b) ∧ ∀ c e, c < 60 → e < 60 → kn (c * 60 + e) ≠ -1 → u.2 (c * 60 + e) = kn (c * 60 + e)) (fun (u : (Nat → Int32) × (Nat → Int32)) => [ob d 3 [.ref ro, .ref tb, .ref ka, .int (nI kd)], ia E ka 3600 u.2, ob ro 8 [.ref la, .ref pa, .ref na, .int (nI n)], ia E la 60 ln, ia E pa 480 pl, ia E na 9 u.1, ob tb 9 [.ref ta, .ref ba, .int brk, .int chk], ia E ta 3600 td, ia E ba 3 br]) := by
  refine CTi.of (by decide) (Nat.le_of_ble_eq_true rfl) (fun X F R => ?_)
  refine g_lv [0, 1, 2] [(0, .ref d), (1, .int (nI a)), (2, .int (nI b))] rfl ?_
  refine g_aload_n F 0 rfl dX3_between_0 ?_
  refine g_get F 3 0 2 inX3 rfl rfl (by decide) tw_fl_X3_9 rfl dX3_between_1 ?_
  refine g_iload_n F 1 rfl dX3_between_4 ?_
  refine g_bipush F (nI 60) (by decide) dX3_between_5 ?_
  refine n_mul F dX3_between_7 ?_
  refine g_iload_n F 2 rfl dX3_between_8 ?_
  refine n_add F dX3_between_9 ?_
  refine g_iald F 1 rfl (by omega) (by decide) dX3_between_10 ?_
  refine g_istore_n F 3 [(0, .ref d), (1, .int (nI a)), (2, .int (nI b)), (3, .int (kn ((a * 60) + b)))] [1, 2, 3, 0] dX3_between_11 rfl (by decide) rfl ?_
  refine g_iload_n F 3 rfl dX3_between_12 ?_
  refine g_iconst F (-1) (by decide) dX3_between_13 ?_
  refine g_icmp_ne F 31 dX3_between_14 (by decide) (fun c_14 => ?_) (fun c_14 => ?_)
  · refine g_iload_n F 3 rfl dX3_between_31 ?_
    exact R _ ((li, kn)) _ _ dX3_between_32 (by (try dsimp only); exact (by
        have q := ((hK a b (by omega) (by omega)).2.resolve_left c_14).2.2
        exact ⟨q, hK, q, fun _ _ _ _ _ => rfl⟩))
  · refine g_aload_n F 0 rfl dX3_between_17 ?_
    refine g_iload_n F 1 rfl dX3_between_18 ?_
    refine g_iload_n F 2 rfl dX3_between_19 ?_
    refine g_cVi F (wr := []) [] (c_X3_measure E d ka kn kd ro la pa na ln pl li n tb ta ba td br brk chk L tN a b (hv) (hL) (ht) (hkd) (by omega) (by omega)) (gi_V tw_ml_X3_49 tw_im_X3_measure tw_se_X3_measure tw_in_X3 tw_co_X3_measure) 2 rfl (by decide) ⟨rfl, rfl, by decide, by decide, Nat.zero_le _, Nat.zero_le _⟩ 3 0 rfl rfl [0, 1, 2, 3, 4, 5, 6, 7, 8] [] [0, 1, 2, 3, 4, 5, 6, 7, 8] (fun u => [ob d 3 [.ref ro, .ref tb, .ref ka, .int (nI kd)], ia E ka 3600 kn, ob ro 8 [.ref la, .ref pa, .ref na, .int (nI n)], ia E la 60 ln, ia E pa 480 pl, ia E na 9 u, ob tb 9 [.ref ta, .ref ba, .int brk, .int chk], ia E ta 3600 td, ia E ba 3 br]) rfl rfl (by decide) (fun _ => rfl) rfl (Nat.le_of_ble_eq_true rfl) dX3_between_20 (fun r_20 u hu_20 => ?_)
    revert hu_20; revert u; intro li2_20 hu_20
    subst hu_20
    refine g_istore_n F 3 [(0, .ref d), (1, .int (nI a)), (2, .int (nI b)), (3, .int (nI (dsN kd L pl tN a b)))] [1, 2, 3, 0] dX3_between_23 rfl (by decide) rfl ?_
    refine g_aload_n F 0 rfl dX3_between_24 ?_
    refine g_iload_n F 1 rfl dX3_between_25 ?_
    refine g_iload_n F 2 rfl dX3_between_26 ?_
    refine g_iload_n F 3 rfl dX3_between_27 ?_
    refine g_cVv F (wr := [ob ro 8 [.ref la, .ref pa, .ref na, .int (nI n)], ia E la 60 ln, ia E pa 480 pl, ia E na 9 li2_20, ob tb 9 [.ref ta, .ref ba, .int brk, .int chk], ia E ta 3600 td, ia E ba 3 br]) [] (c_X3_remember E d ro tb ka kn kd a b (nI (dsN kd L pl tN a b)) (by omega) (by omega)) (gi_V tw_ml_X3_33 tw_im_X3_remember tw_se_X3_remember tw_in_X3 tw_co_X3_remember) 3 rfl (by decide) ⟨rfl, rfl, by decide, by decide, Nat.zero_le _, Nat.zero_le _⟩ 3 0 rfl rfl [0, 1] [2, 3, 4, 5, 6, 7, 8] [7, 8, 0, 1, 2, 3, 4, 5, 6] (fun u => [ob d 3 [.ref ro, .ref tb, .ref ka, .int (nI kd)], ia E ka 3600 (rem2 kn a b (nI (dsN kd L pl tN a b))), ob ro 8 [.ref la, .ref pa, .ref na, .int (nI n)], ia E la 60 ln, ia E pa 480 pl, ia E na 9 li2_20, ob tb 9 [.ref ta, .ref ba, .int brk, .int chk], ia E ta 3600 td, ia E ba 3 br]) rfl rfl (by decide) (fun _ => rfl) rfl (Nat.le_of_ble_eq_true rfl) dX3_between_28 (fun u hu_28 => ?_)
    refine g_iload_n F 3 rfl dX3_between_31 ?_
    exact R _ ((li2_20, rem2 kn a b (nI (dsN kd L pl tN a b)))) _ _ dX3_between_32 (by (try dsimp only); exact (⟨rfl, kn_rem hK ha hb hn hsy, by rw [rem_at (by omega) (by omega) (by omega), if_pos (Or.inl ⟨rfl, rfl⟩)], fun c e qc qe q => by
        rw [rem_at (by omega) (by omega) qe]
        by_cases z : (c = a ∧ e = b) ∨ (c = b ∧ e = a)
        · exfalso
          rcases z with ⟨rfl, rfl⟩ | ⟨rfl, rfl⟩
          · exact q c_14
          · exact q (by rw [(hK _ _ qc qe).1]; exact c_14)
        · rw [if_neg z]⟩))
