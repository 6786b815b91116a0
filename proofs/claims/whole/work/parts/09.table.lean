/-- what is told, as numbers -/
def TR (td : Nat → Int32) (tN : Nat → Nat) : Prop := ∀ j, j < 3600 → td j = nI (tN j) ∧ tN j ≤ 100000
def SY (tN : Nat → Nat) : Prop := (∀ a b, a < 60 → b < 60 → tN (a * 60 + b) = tN (b * 60 + a)) ∧ ∀ a, a < 60 → tN (a * 60 + a) = 0
/-- a, b, c break the law -/
def bk (tN : Nat → Nat) (a b c : Nat) : Prop := tN (a * 60 + b) + tN (b * 60 + c) < tN (a * 60 + c)
def LW (tN : Nat → Nat) (n : Nat) : Prop := ∀ a b c, a < n → b < n → c < n → ¬ bk tN a b c
def BR (tN : Nat → Nat) (n a b c : Nat) : Prop := a < n ∧ b < n ∧ c < n ∧ bk tN a b c ∧ ∀ a' b' c', a' < n → b' < n → c' < n → bk tN a' b' c' → a < a' ∨ (a = a' ∧ (b < b' ∨ (b = b' ∧ c ≤ c')))
theorem br_uni {tN : Nat → Nat} {n a b c a' b' c' : Nat} (h : BR tN n a b c) (h' : BR tN n a' b' c') : a = a' ∧ b = b' ∧ c = c' := by
  have h1 := h.2.2.2.2 a' b' c' h'.1 h'.2.1 h'.2.2.1 h'.2.2.2.1
  have h2 := h'.2.2.2.2 a b c h.1 h.2.1 h.2.2.1 h.2.2.2.1
  omega
theorem br_not {tN : Nat → Nat} {n a b c : Nat} (h : BR tN n a b c) : ¬ LW tN n := fun z => z a b c h.1 h.2.1 h.2.2.1 h.2.2.2.1
theorem bk_sym {tN : Nat → Nat} {a b c : Nat} (hs : SY tN) (ha : a < 60) (hb : b < 60) (hc : c < 60) (h : bk tN a b c) : bk tN c b a := by
  unfold bk at h ⊢
  rw [hs.1 c b hc hb, hs.1 b a hb ha, hs.1 c a hc ha]
  omega
theorem bk_ne {tN : Nat → Nat} {a b c : Nat} (hs : SY tN) (ha : a < 60) (h : bk tN a b c) : a ≠ c := by
  rintro rfl
  unfold bk at h
  rw [hs.2 a ha] at h
  omega
theorem lw_of {tN : Nat → Nat} {n : Nat} (hs : SY tN) (hn : n ≤ 60) (h : ∀ a, a < n → ∀ b, b < n → ∀ c, a < c → c < n → ¬ bk tN a b c) : LW tN n := by
  intro a b c ha hb hc hk
  rcases Nat.lt_trichotomy a c with q | q | q
  · exact h a ha b hb c q hc hk
  · exact bk_ne hs (by omega) hk q
  · exact h c hc b hb a q ha (bk_sym hs (by omega) (by omega) (by omega) hk)
theorem br_of {tN : Nat → Nat} {n a b c : Nat} (hs : SY tN) (hn : n ≤ 60) (ha : a < n) (hb : b < n) (hac : a < c) (hc : c < n) (hk : bk tN a b c) (h1 : ∀ a', a' < a → ∀ b', b' < n → ∀ c', a' < c' → c' < n → ¬ bk tN a' b' c') (h2 : ∀ b', b' < b → ∀ c', a < c' → c' < n → ¬ bk tN a b' c') (h3 : ∀ c', a < c' → c' < c → ¬ bk tN a b c') : BR tN n a b c := by
  have up : ∀ a' b' c', a' < n → b' < n → c' < n → a' < c' → bk tN a' b' c' → a < a' ∨ (a = a' ∧ (b < b' ∨ (b = b' ∧ c ≤ c'))) := by
    intro a' b' c' q1 q2 q3 q4 q5
    rcases Nat.lt_trichotomy a' a with z | z | z
    · exact absurd q5 (h1 a' z b' q2 c' q4 q3)
    · subst z
      rcases Nat.lt_trichotomy b' b with y | y | y
      · exact absurd q5 (h2 b' y c' q4 q3)
      · subst y
        rcases Nat.lt_or_ge c' c with x | x
        · exact absurd q5 (h3 c' q4 x)
        · omega
      · omega
    · omega
  refine ⟨ha, hb, hc, hk, fun a' b' c' q1 q2 q3 q5 => ?_⟩
  rcases Nat.lt_trichotomy a' c' with z | z | z
  · exact up a' b' c' q1 q2 q3 z q5
  · exact absurd z (bk_ne hs (by omega) q5)
  · have := up c' b' a' q3 q2 q1 z (bk_sym hs (by omega) (by omega) (by omega) q5)
    omega
def TBr (tN : Nat → Nat) (br : Nat → Int32) (n : Nat) : Prop := ∃ x y z, BR tN n x y z ∧ br 0 = nI x ∧ br 1 = nI y ∧ br 2 = nI z
/-- the table's memory of the law -/
def TBk (tN : Nat → Nat) (br : Nat → Int32) (brk chk : Int32) : Prop := chk = -1 ∨ ∃ c, c ≤ 60 ∧ chk = nI c ∧ ((brk = 0 ∧ LW tN c) ∨ (brk = 1 ∧ TBr tN br c))
theorem nI_m1 {n : Nat} (h : n < 2 ^ 31) : nI n ≠ -1 := by
  intro e
  have := nI_toInt h
  rw [e, show (-1 : Int32).toInt = -1 from by decide] at this
  omega
theorem tb_case {tN : Nat → Nat} {br : Nat → Int32} {brk : Int32} {n : Nat} (hn : n ≤ 60) (h : TBk tN br brk (nI n)) : (brk = 0 ∧ LW tN n) ∨ (brk = 1 ∧ TBr tN br n) := by
  rcases h with h | ⟨c, hc, e, h⟩
  · exact absurd h (nI_m1 (by omega))
  · rw [(nI_eq (by omega) (by omega)).mp e]; exact h

set_option maxHeartbeats 4000000 in
set_option maxRecDepth 100000 in
theorem c_X9_read (E : Ev) (tb : Nat) (ta : Nat) (ba : Nat) (td : Nat → Int32) (br : Nat → Int32) (brk : Int32) (chk : Int32) (tN : Nat → Nat) (a : Nat) (b : Nat) (ht : TR td tN) (ha : a < 60) (hb : b < 60) : RDi E yX9_read (wq yX9_read cX9_read 3 (some .int)) (rmk 0 0) [.ref tb, .int (nI a), .int (nI b)] [ob tb 9 [.ref ta, .ref ba, .int brk, .int chk], ia E ta 3600 td, ia E ba 3 br] (nI (tN (a * 60 + b))) := by
  refine CTi.of (by decide) (Nat.le_of_ble_eq_true rfl) (fun X F R => ?_)
  refine g_lv [0, 1, 2] [(0, .ref tb), (1, .int (nI a)), (2, .int (nI b))] rfl ?_
  refine g_aload_n F 0 rfl dX9_read_0 ?_
  refine g_get F 9 0 0 inX9 rfl rfl (by decide) tw_fl_X9_9 rfl dX9_read_1 ?_
  refine g_iload_n F 1 rfl dX9_read_4 ?_
  refine g_bipush F (nI 60) (by decide) dX9_read_5 ?_
  refine n_mul F dX9_read_7 ?_
  refine g_iload_n F 2 rfl dX9_read_8 ?_
  refine n_add F dX9_read_9 ?_
  refine g_iald F 1 rfl (by omega) (by decide) dX9_read_10 ?_
  refine g_top (nI (tN (a * 60 + b))) ((ht _ (by omega)).1) ?_
  exact R _ (()) _ _ dX9_read_11 (rfl)

set_option maxHeartbeats 4000000 in
set_option maxRecDepth 100000 in
theorem c_X9_write (E : Ev) (tb : Nat) (ta : Nat) (ba : Nat) (td : Nat → Int32) (br : Nat → Int32) (brk : Int32) (chk : Int32) (a : Nat) (b : Nat) (x : Int32) (ha : a < 60) (hb : b < 60) : CTv E yX9_write (wq yX9_write cX9_write 4 none) (rmk 0 0) [.ref tb, .int (nI a), .int (nI b), .int x] [ob tb 9 [.ref ta, .ref ba, .int brk, .int chk], ia E ta 3600 td, ia E ba 3 br] (fun (u : Unit) => True) (fun (u : Unit) => [ob tb 9 [.ref ta, .ref ba, .int brk, .int (-1)], ia E ta 3600 (upd (upd td (a * 60 + b) x) (b * 60 + a) x), ia E ba 3 br]) := by
  refine CTv.of (by decide) (Nat.le_of_ble_eq_true rfl) (fun X F R => ?_)
  refine g_lv [0, 1, 2, 3] [(0, .ref tb), (1, .int (nI a)), (2, .int (nI b)), (3, .int x)] rfl ?_
  refine g_aload_n F 0 rfl dX9_write_0 ?_
  refine g_get F 9 0 0 inX9 rfl rfl (by decide) tw_fl_X9_9 rfl dX9_write_1 ?_
  refine g_iload_n F 1 rfl dX9_write_4 ?_
  refine g_bipush F (nI 60) (by decide) dX9_write_5 ?_
  refine n_mul F dX9_write_7 ?_
  refine g_iload_n F 2 rfl dX9_write_8 ?_
  refine n_add F dX9_write_9 ?_
  refine g_iload_n F 3 rfl dX9_write_10 ?_
  refine g_iast F 1 [ob tb 9 [.ref ta, .ref ba, .int brk, .int chk], ia E ta 3600 (upd td ((a * 60) + b) x), ia E ba 3 br] rfl (by omega) (by decide) rfl dX9_write_11 ?_
  refine g_aload_n F 0 rfl dX9_write_12 ?_
  refine g_get F 9 0 0 inX9 rfl rfl (by decide) tw_fl_X9_9 rfl dX9_write_13 ?_
  refine g_iload_n F 2 rfl dX9_write_16 ?_
  refine g_bipush F (nI 60) (by decide) dX9_write_17 ?_
  refine n_mul F dX9_write_19 ?_
  refine g_iload_n F 1 rfl dX9_write_20 ?_
  refine n_add F dX9_write_21 ?_
  refine g_iload_n F 3 rfl dX9_write_22 ?_
  refine g_iast F 1 [ob tb 9 [.ref ta, .ref ba, .int brk, .int chk], ia E ta 3600 (upd (upd td ((a * 60) + b) x) ((b * 60) + a) x), ia E ba 3 br] rfl (by omega) (by decide) rfl dX9_write_23 ?_
  refine g_aload_n F 0 rfl dX9_write_24 ?_
  refine g_iconst F (-1) (by decide) dX9_write_25 ?_
  refine g_put F 9 0 3 [ob tb 9 [.ref ta, .ref ba, .int brk, .int (-1)], ia E ta 3600 (upd (upd td ((a * 60) + b) x) ((b * 60) + a) x), ia E ba 3 br] inX9 tyX9_ok nmX9 rfl rfl (by decide) tw_fl_X9_22 rfl rfl rfl rfl (Nat.le_of_ble_eq_true rfl) rfl dX9_write_26 ?_
  exact R (()) _ _ dX9_write_29 (trivial)

set_option maxHeartbeats 4000000 in
set_option maxRecDepth 100000 in
theorem c_X9_breaker (E : Ev) (tb : Nat) (ta : Nat) (ba : Nat) (td : Nat → Int32) (br : Nat → Int32) (brk : Int32) (chk : Int32) (i : Nat) (hi : i < 3) : RDi E yX9_breaker (wq yX9_breaker cX9_breaker 2 (some .int)) (rmk 0 0) [.ref tb, .int (nI i)] [ob tb 9 [.ref ta, .ref ba, .int brk, .int chk], ia E ta 3600 td, ia E ba 3 br] (br i) := by
  refine CTi.of (by decide) (Nat.le_of_ble_eq_true rfl) (fun X F R => ?_)
  refine g_lv [0, 1] [(0, .ref tb), (1, .int (nI i))] rfl ?_
  refine g_aload_n F 0 rfl dX9_breaker_0 ?_
  refine g_get F 9 0 1 inX9 rfl rfl (by decide) tw_fl_X9_15 rfl dX9_breaker_1 ?_
  refine g_iload_n F 1 rfl dX9_breaker_4 ?_
  refine g_iald F 2 rfl (by omega) (by decide) dX9_breaker_5 ?_
  exact R _ (()) _ _ dX9_breaker_6 (rfl)

set_option maxHeartbeats 4000000 in
set_option maxRecDepth 100000 in
theorem c_X9_endBeyond (E : Ev) (tb : Nat) (ta : Nat) (ba : Nat) (td : Nat → Int32) (br : Nat → Int32) (brk : Int32) (chk : Int32) (tN : Nat → Nat) (a : Nat) (b : Nat) (n : Nat) (ht : TR td tN) (hn : n ≤ 60) (ha : a < n) (hb : b < n) : CTi E yX9_endBeyond (wq yX9_endBeyond cX9_endBeyond 8 (some .int)) (rmk 0 0) [.ref tb, .int (nI a), .int (nI b), .int (nI n)] [ob tb 9 [.ref ta, .ref ba, .int brk, .int chk], ia E ta 3600 td, ia E ba 3 br] (fun (r : Int32) (u : Unit) => (r = -1 ∧ ∀ c, a < c → c < n → ¬ bk tN a b c) ∨ (∃ c, r = nI c ∧ a < c ∧ c < n ∧ bk tN a b c ∧ ∀ c2, a < c2 → c2 < c → ¬ bk tN a b c2)) (fun (u : Unit) => [ob tb 9 [.ref ta, .ref ba, .int brk, .int chk], ia E ta 3600 td, ia E ba 3 br]) := by
  refine CTi.of (by decide) (Nat.le_of_ble_eq_true rfl) (fun X F R => ?_)
  refine g_lv [0, 1, 2, 3] [(0, .ref tb), (1, .int (nI a)), (2, .int (nI b)), (3, .int (nI n))] rfl ?_
  refine g_iload_n F 1 rfl dX9_endBeyond_0 ?_
  refine g_bipush F (nI 60) (by decide) dX9_endBeyond_1 ?_
  refine n_mul F dX9_endBeyond_3 ?_
  refine g_istore F 4 [(0, .ref tb), (1, .int (nI a)), (2, .int (nI b)), (3, .int (nI n)), (4, .int (nI (a * 60)))] [1, 2, 3, 4, 0] dX9_endBeyond_4 (by decide) rfl ?_
  refine g_iload_n F 2 rfl dX9_endBeyond_6 ?_
  refine g_bipush F (nI 60) (by decide) dX9_endBeyond_7 ?_
  refine n_mul F dX9_endBeyond_9 ?_
  refine g_istore F 5 [(0, .ref tb), (1, .int (nI a)), (2, .int (nI b)), (3, .int (nI n)), (4, .int (nI (a * 60))), (5, .int (nI (b * 60)))] [1, 2, 3, 4, 5, 0] dX9_endBeyond_10 (by decide) rfl ?_
  refine g_aload_n F 0 rfl dX9_endBeyond_12 ?_
  refine g_get F 9 0 0 inX9 rfl rfl (by decide) tw_fl_X9_9 rfl dX9_endBeyond_13 ?_
  refine g_iload F 4 rfl dX9_endBeyond_16 ?_
  refine g_iload_n F 2 rfl dX9_endBeyond_18 ?_
  refine n_add F dX9_endBeyond_19 ?_
  refine g_iald F 1 rfl (by omega) (by decide) dX9_endBeyond_20 ?_
  refine g_top (nI (tN (a * 60 + b))) ((ht _ (by omega)).1) ?_
  refine g_istore F 6 [(0, .ref tb), (1, .int (nI a)), (2, .int (nI b)), (3, .int (nI n)), (4, .int (nI (a * 60))), (5, .int (nI (b * 60))), (6, .int (nI (tN (a * 60 + b))))] [1, 2, 3, 4, 5, 6, 0] dX9_endBeyond_21 (by decide) rfl ?_
  refine g_iload_n F 1 rfl dX9_endBeyond_23 ?_
  refine g_iconst F (nI 1) (by decide) dX9_endBeyond_24 ?_
  refine n_add F dX9_endBeyond_25 ?_
  refine g_istore F 7 [(0, .ref tb), (1, .int (nI a)), (2, .int (nI b)), (3, .int (nI n)), (4, .int (nI (a * 60))), (5, .int (nI (b * 60))), (6, .int (nI (tN (a * 60 + b)))), (7, .int (nI (a + 1)))] [1, 2, 3, 4, 5, 6, 7, 0] dX9_endBeyond_26 (by decide) rfl ?_
  have lp_28 : ∀ (n_28 : Nat) (c : Nat), (a < c) → (c ≤ n) → (∀ c2, a < c2 → c2 < c → ¬ bk tN a b c2) → n - c < n_28 → GW E X 0 0 [ob tb 9 [.ref ta, .ref ba, .int brk, .int chk], ia E ta 3600 td, ia E ba 3 br] [(0, .ref tb), (1, .int (nI a)), (2, .int (nI b)), (3, .int (nI n)), (4, .int (nI (a * 60))), (5, .int (nI (b * 60))), (6, .int (nI (tN (a * 60 + b)))), (7, .int (nI c))] 28 [] := by
    intro n_28
    induction n_28 with
    | zero => intro c hc1 hc2 hp hm_28; exact absurd hm_28 (Nat.not_lt_zero _)
    | succ n_28 ih_28 =>
      intro c hc1 hc2 hp hm_28
      refine g_iload F 7 rfl dX9_endBeyond_28 ?_
      refine g_iload_n F 3 rfl dX9_endBeyond_30 ?_
      refine n_icmp_ge F 69 dX9_endBeyond_31 (by decide) (by omega) (by omega) (fun c_31 => ?_) (fun c_31 => ?_)
      · refine g_iconst F (-1) (by decide) dX9_endBeyond_69 ?_
        exact R _ (()) _ _ dX9_endBeyond_70 (Or.inl ⟨rfl, fun c2 h1 h2 => hp c2 h1 (by omega)⟩)
      · refine g_aload_n F 0 rfl dX9_endBeyond_34 ?_
        refine g_get F 9 0 0 inX9 rfl rfl (by decide) tw_fl_X9_9 rfl dX9_endBeyond_35 ?_
        refine g_iload F 4 rfl dX9_endBeyond_38 ?_
        refine g_iload F 7 rfl dX9_endBeyond_40 ?_
        refine n_add F dX9_endBeyond_42 ?_
        refine g_iald F 1 rfl (by omega) (by decide) dX9_endBeyond_43 ?_
        refine g_top (nI (tN (a * 60 + c))) ((ht _ (by omega)).1) ?_
        refine g_iload F 6 rfl dX9_endBeyond_44 ?_
        refine g_aload_n F 0 rfl dX9_endBeyond_46 ?_
        refine g_get F 9 0 0 inX9 rfl rfl (by decide) tw_fl_X9_9 rfl dX9_endBeyond_47 ?_
        refine g_iload F 5 rfl dX9_endBeyond_50 ?_
        refine g_iload F 7 rfl dX9_endBeyond_52 ?_
        refine n_add F dX9_endBeyond_54 ?_
        refine g_iald F 1 rfl (by omega) (by decide) dX9_endBeyond_55 ?_
        refine g_top (nI (tN (b * 60 + c))) ((ht _ (by omega)).1) ?_
        refine n_add F dX9_endBeyond_56 ?_
        refine n_icmp_le F 63 dX9_endBeyond_57 (by decide) (by have := (ht (a * 60 + c) (by omega)).2; omega) (by have := (ht (a * 60 + b) (by omega)).2; have := (ht (b * 60 + c) (by omega)).2; omega) (fun c_57 => ?_) (fun c_57 => ?_)
        · refine g_iinc F (nI (c + 1)) 7 7 [(0, .ref tb), (1, .int (nI a)), (2, .int (nI b)), (3, .int (nI n)), (4, .int (nI (a * 60))), (5, .int (nI (b * 60))), (6, .int (nI (tN (a * 60 + b)))), (7, .int (nI (c + 1)))] [1, 2, 3, 4, 5, 6, 7, 0] dX9_endBeyond_63 rfl (n_inc c) (by decide) rfl ?_
          refine g_goto F 28 dX9_endBeyond_66 (by decide) ?_
          exact ih_28 (c + 1) (by omega) (by omega) (fun c2 h1 h2 => by
          rcases Nat.lt_or_ge c2 c with q | q
          · exact hp c2 h1 q
          · rw [show c2 = c by omega]; unfold bk; omega) (by omega)
        · refine g_iload F 7 rfl dX9_endBeyond_60 ?_
          exact R _ (()) _ _ dX9_endBeyond_62 (Or.inr ⟨c, rfl, hc1, c_31, c_57, hp⟩)
  exact lp_28 _ (a + 1) (by omega) (by omega) (fun c2 h1 h2 => absurd h1 (by omega)) (Nat.lt_succ_self _)

set_option maxHeartbeats 4000000 in
set_option maxRecDepth 100000 in
theorem c_X9_findBreakers (E : Ev) (tb : Nat) (ta : Nat) (ba : Nat) (td : Nat → Int32) (br : Nat → Int32) (brk : Int32) (chk : Int32) (tN : Nat → Nat) (n : Nat) (ht : TR td tN) (hs : SY tN) (hn : n ≤ 60) : CTi E yX9_findBreakers (wq yX9_findBreakers cX9_findBreakers 5 (some .boolean)) (rmk 1 27) [.ref tb, .int (nI n)] [ob tb 9 [.ref ta, .ref ba, .int brk, .int chk], ia E ta 3600 td, ia E ba 3 br] (fun (r : Int32) (u : (Nat → Int32)) => (r = 1 ∧ TBr tN u n) ∨ (r = 0 ∧ LW tN n)) (fun (u : (Nat → Int32)) => [ob tb 9 [.ref ta, .ref ba, .int brk, .int chk], ia E ta 3600 td, ia E ba 3 u]) := by
  refine CTi.ofZ (by decide) (Nat.le_of_ble_eq_true rfl) (fun X F R => ?_)
  refine g_lv [0, 1] [(0, .ref tb), (1, .int (nI n))] rfl ?_
  refine g_iconst F (nI 0) (by decide) dX9_findBreakers_0 ?_
  refine g_istore_n F 2 [(0, .ref tb), (1, .int (nI n)), (2, .int (nI 0))] [1, 2, 0] dX9_findBreakers_1 rfl (by decide) rfl ?_
  have lp_2 : ∀ (n_2 : Nat) (a : Nat), (a ≤ n) → (∀ a2, a2 < a → ∀ b2, b2 < n → ∀ c2, a2 < c2 → c2 < n → ¬ bk tN a2 b2 c2) → n - a < n_2 → GW E X 0 0 [ob tb 9 [.ref ta, .ref ba, .int brk, .int chk], ia E ta 3600 td, ia E ba 3 br] [(0, .ref tb), (1, .int (nI n)), (2, .int (nI a))] 2 [] := by
    intro n_2
    induction n_2 with
    | zero => intro a ha h1 hm_2; exact absurd hm_2 (Nat.not_lt_zero _)
    | succ n_2 ih_2 =>
      intro a ha h1 hm_2
      refine g_iload_n F 2 rfl dX9_findBreakers_2 ?_
      refine g_iload_n F 1 rfl dX9_findBreakers_3 ?_
      refine n_icmp_ge F 65 dX9_findBreakers_4 (by decide) (by omega) (by omega) (fun c_4 => ?_) (fun c_4 => ?_)
      · refine g_iconst F (nI 0) (by decide) dX9_findBreakers_65 ?_
        exact R _ br _ _ dX9_findBreakers_66 (Or.inl rfl) (Or.inr ⟨rfl, lw_of hs hn (fun a2 q => h1 a2 (by omega))⟩)
      · refine g_iconst F (nI 0) (by decide) dX9_findBreakers_7 ?_
        refine g_istore_n F 3 [(0, .ref tb), (1, .int (nI n)), (2, .int (nI a)), (3, .int (nI 0))] [1, 2, 3, 0] dX9_findBreakers_8 rfl (by decide) rfl ?_
        have lp_9 : ∀ (n_9 : Nat) (b : Nat), (b ≤ n) → (∀ b2, b2 < b → ∀ c2, a < c2 → c2 < n → ¬ bk tN a b2 c2) → n - b < n_9 → GW E X 0 0 [ob tb 9 [.ref ta, .ref ba, .int brk, .int chk], ia E ta 3600 td, ia E ba 3 br] [(0, .ref tb), (1, .int (nI n)), (2, .int (nI a)), (3, .int (nI b))] 9 [] := by
          intro n_9
          induction n_9 with
          | zero => intro b hb h2 hm_9; exact absurd hm_9 (Nat.not_lt_zero _)
          | succ n_9 ih_9 =>
            intro b hb h2 hm_9
            refine g_iload_n F 3 rfl dX9_findBreakers_9 ?_
            refine g_iload_n F 1 rfl dX9_findBreakers_10 ?_
            refine n_icmp_ge F 59 dX9_findBreakers_11 (by decide) (by omega) (by omega) (fun c_11 => ?_) (fun c_11 => ?_)
            · refine g_iinc F (nI (a + 1)) 2 2 [(0, .ref tb), (1, .int (nI n)), (2, .int (nI (a + 1))), (3, .int (nI b))] [1, 2, 0, 3] dX9_findBreakers_59 rfl (n_inc a) (by decide) rfl ?_
              refine g_goto F 2 dX9_findBreakers_62 (by decide) ?_
              refine g_lv [0, 1, 2] [(0, .ref tb), (1, .int (nI n)), (2, .int (nI (a + 1)))] rfl ?_
              exact ih_2 (a + 1) (by omega) (lt_s h1 (fun b2 q => h2 b2 (by omega))) (by omega)
            · refine g_aload_n F 0 rfl dX9_findBreakers_14 ?_
              refine g_iload_n F 2 rfl dX9_findBreakers_15 ?_
              refine g_iload_n F 3 rfl dX9_findBreakers_16 ?_
              refine g_iload_n F 1 rfl dX9_findBreakers_17 ?_
              refine g_cVi F (wr := []) [] (c_X9_endBeyond E tb ta ba td br brk chk tN a b n (ht) (hn) (by omega) (by omega)) (gi_V tw_ml_X9_30 tw_im_X9_endBeyond tw_se_X9_endBeyond tw_in_X9 tw_co_X9_endBeyond) 3 rfl (by decide) ⟨rfl, rfl, by decide, by decide, Nat.zero_le _, Nat.zero_le _⟩ 9 0 rfl rfl [0, 1, 2] [] [0, 1, 2] (fun u => [ob tb 9 [.ref ta, .ref ba, .int brk, .int chk], ia E ta 3600 td, ia E ba 3 br]) rfl rfl (by decide) (fun _ => rfl) rfl (Nat.le_of_ble_eq_true rfl) dX9_findBreakers_18 (fun r_18 u hu_18 => ?_)
              rcases hu_18 with ⟨rfl, h_18⟩ | ⟨cc, rfl, h_18, h_18b, h_18c, h_18d⟩
              · refine g_istore F 4 [(0, .ref tb), (1, .int (nI n)), (2, .int (nI a)), (3, .int (nI b)), (4, .int (-1))] [1, 2, 3, 4, 0] dX9_findBreakers_21 (by decide) rfl ?_
                refine g_iload F 4 rfl dX9_findBreakers_23 ?_
                refine g_iconst F (-1) (by decide) dX9_findBreakers_25 ?_
                refine g_icmp_eq F 53 dX9_findBreakers_26 (by decide) (fun _ => ?_) (fun h => absurd rfl h)
                refine g_iinc F (nI (b + 1)) 3 3 [(0, .ref tb), (1, .int (nI n)), (2, .int (nI a)), (3, .int (nI (b + 1))), (4, .int (-1))] [1, 2, 3, 0, 4] dX9_findBreakers_53 rfl (n_inc b) (by decide) rfl ?_
                refine g_goto F 9 dX9_findBreakers_56 (by decide) ?_
                refine g_lv [0, 1, 2, 3] [(0, .ref tb), (1, .int (nI n)), (2, .int (nI a)), (3, .int (nI (b + 1)))] rfl ?_
                exact ih_9 (b + 1) (by omega) (lt_s h2 h_18) (by omega)
              · refine g_istore F 4 [(0, .ref tb), (1, .int (nI n)), (2, .int (nI a)), (3, .int (nI b)), (4, .int (nI cc))] [1, 2, 3, 4, 0] dX9_findBreakers_21 (by decide) rfl ?_
                refine g_iload F 4 rfl dX9_findBreakers_23 ?_
                refine g_iconst F (-1) (by decide) dX9_findBreakers_25 ?_
                refine g_icmp_eq F 53 dX9_findBreakers_26 (by decide) (fun h => absurd h (nI_m1 (by omega))) (fun _ => ?_)
                refine g_aload_n F 0 rfl dX9_findBreakers_29 ?_
                refine g_get F 9 0 1 inX9 rfl rfl (by decide) tw_fl_X9_15 rfl dX9_findBreakers_30 ?_
                refine g_iconst F (nI 0) (by decide) dX9_findBreakers_33 ?_
                refine g_iload_n F 2 rfl dX9_findBreakers_34 ?_
                refine g_iast F 2 [ob tb 9 [.ref ta, .ref ba, .int brk, .int chk], ia E ta 3600 td, ia E ba 3 (upd br 0 (nI a))] rfl (by omega) (by decide) rfl dX9_findBreakers_35 ?_
                refine g_aload_n F 0 rfl dX9_findBreakers_36 ?_
                refine g_get F 9 0 1 inX9 rfl rfl (by decide) tw_fl_X9_15 rfl dX9_findBreakers_37 ?_
                refine g_iconst F (nI 1) (by decide) dX9_findBreakers_40 ?_
                refine g_iload_n F 3 rfl dX9_findBreakers_41 ?_
                refine g_iast F 2 [ob tb 9 [.ref ta, .ref ba, .int brk, .int chk], ia E ta 3600 td, ia E ba 3 (upd (upd br 0 (nI a)) 1 (nI b))] rfl (by omega) (by decide) rfl dX9_findBreakers_42 ?_
                refine g_aload_n F 0 rfl dX9_findBreakers_43 ?_
                refine g_get F 9 0 1 inX9 rfl rfl (by decide) tw_fl_X9_15 rfl dX9_findBreakers_44 ?_
                refine g_iconst F (nI 2) (by decide) dX9_findBreakers_47 ?_
                refine g_iload F 4 rfl dX9_findBreakers_48 ?_
                refine g_iast F 2 [ob tb 9 [.ref ta, .ref ba, .int brk, .int chk], ia E ta 3600 td, ia E ba 3 (upd (upd (upd br 0 (nI a)) 1 (nI b)) 2 (nI cc))] rfl (by omega) (by decide) rfl dX9_findBreakers_50 ?_
                refine g_iconst F (nI 1) (by decide) dX9_findBreakers_51 ?_
                exact R _ (upd (upd (upd br 0 (nI a)) 1 (nI b)) 2 (nI cc)) _ _ dX9_findBreakers_52 (Or.inr rfl) (Or.inl ⟨rfl, a, b, cc, br_of hs hn c_4 c_11 h_18 h_18b h_18c h1 h2 h_18d, rfl, rfl, rfl⟩)
        exact lp_9 _ 0 (by omega) (fun b2 h => absurd h (Nat.not_lt_zero b2)) (Nat.lt_succ_self _)
  exact lp_2 _ 0 (by omega) (fun a2 h => absurd h (Nat.not_lt_zero a2)) (Nat.lt_succ_self _)

set_option maxHeartbeats 4000000 in
set_option maxRecDepth 100000 in
theorem c_X9_lawHolds (E : Ev) (tb : Nat) (ta : Nat) (ba : Nat) (td : Nat → Int32) (br : Nat → Int32) (brk : Int32) (chk : Int32) (tN : Nat → Nat) (n : Nat) (ht : TR td tN) (hs : SY tN) (hn : n ≤ 60) (hT : TBk tN br brk chk) : CTi E yX9_lawHolds (wq yX9_lawHolds cX9_lawHolds 2 (some .boolean)) (rmk 2 51) [.ref tb, .int (nI n)] [ob tb 9 [.ref ta, .ref ba, .int brk, .int chk], ia E ta 3600 td, ia E ba 3 br] (fun (r : Int32) (u : (Nat → Int32) × Int32) => ((r = 1 ∧ u.2 = 0 ∧ LW tN n) ∨ (r = 0 ∧ u.2 = 1 ∧ TBr tN u.1 n))) (fun (u : (Nat → Int32) × Int32) => [ob tb 9 [.ref ta, .ref ba, .int u.2, .int (nI n)], ia E ta 3600 td, ia E ba 3 u.1]) := by
  refine CTi.ofZ (by decide) (Nat.le_of_ble_eq_true rfl) (fun X F R => ?_)
  refine g_lv [0, 1] [(0, .ref tb), (1, .int (nI n))] rfl ?_
  refine g_aload_n F 0 rfl dX9_lawHolds_0 ?_
  refine g_get F 9 0 3 inX9 rfl rfl (by decide) tw_fl_X9_22 rfl dX9_lawHolds_1 ?_
  refine g_iload_n F 1 rfl dX9_lawHolds_4 ?_
  refine g_icmp_eq F 22 dX9_lawHolds_5 (by decide) (fun c_5 => ?_) (fun c_5 => ?_)
  · subst c_5; rcases tb_case hn hT with ⟨rfl, hq⟩ | ⟨rfl, hq⟩
    · refine g_aload_n F 0 rfl dX9_lawHolds_22 ?_
      refine g_get F 9 0 2 inX9 rfl rfl (by decide) tw_fl_X9_18 rfl dX9_lawHolds_23 ?_
      refine g_if_ne F 33 dX9_lawHolds_26 (by decide) (fun h => absurd (by decide) h) (fun _ => ?_)
      refine g_iconst F (nI 1) (by decide) dX9_lawHolds_29 ?_
      refine g_goto F 34 dX9_lawHolds_30 (by decide) ?_
      exact R _ ((br, 0)) _ _ dX9_lawHolds_34 (Or.inr rfl) (Or.inl ⟨rfl, rfl, hq⟩)
    · refine g_aload_n F 0 rfl dX9_lawHolds_22 ?_
      refine g_get F 9 0 2 inX9 rfl rfl (by decide) tw_fl_X9_18 rfl dX9_lawHolds_23 ?_
      refine g_if_ne F 33 dX9_lawHolds_26 (by decide) (fun _ => ?_) (fun h => absurd h (by decide))
      refine g_iconst F (nI 0) (by decide) dX9_lawHolds_33 ?_
      exact R _ ((br, 1)) _ _ dX9_lawHolds_34 (Or.inl rfl) (Or.inr ⟨rfl, rfl, hq⟩)
  · refine g_aload_n F 0 rfl dX9_lawHolds_8 ?_
    refine g_aload_n F 0 rfl dX9_lawHolds_9 ?_
    refine g_iload_n F 1 rfl dX9_lawHolds_10 ?_
    refine g_cVi F (wr := []) [.ref tb] (c_X9_findBreakers E tb ta ba td br brk chk tN n (ht) (hs) (hn)) (gi_V tw_ml_X9_26 tw_im_X9_findBreakers tw_se_X9_findBreakers tw_in_X9 tw_co_X9_findBreakers) 1 rfl (by decide) ⟨rfl, rfl, by decide, by decide, Nat.zero_le _, Nat.zero_le _⟩ 9 0 rfl rfl [0, 1, 2] [] [0, 1, 2] (fun u => [ob tb 9 [.ref ta, .ref ba, .int brk, .int chk], ia E ta 3600 td, ia E ba 3 u]) rfl rfl (by decide) (fun _ => rfl) rfl (Nat.le_of_ble_eq_true rfl) dX9_lawHolds_11 (fun r_11 u hu_11 => ?_)
    revert hu_11; revert u; intro br2_11 hu_11
    rcases hu_11 with ⟨rfl, h_11⟩ | ⟨rfl, h_11⟩
    · refine g_put F 9 0 2 [ob tb 9 [.ref ta, .ref ba, .int 1, .int chk], ia E ta 3600 td, ia E ba 3 br2_11] inX9 tyX9_ok nmX9 rfl rfl (by decide) tw_fl_X9_18 rfl rfl rfl rfl (Nat.le_of_ble_eq_true rfl) rfl dX9_lawHolds_14 ?_
      refine g_aload_n F 0 rfl dX9_lawHolds_17 ?_
      refine g_iload_n F 1 rfl dX9_lawHolds_18 ?_
      refine g_put F 9 0 3 [ob tb 9 [.ref ta, .ref ba, .int 1, .int (nI n)], ia E ta 3600 td, ia E ba 3 br2_11] inX9 tyX9_ok nmX9 rfl rfl (by decide) tw_fl_X9_22 rfl rfl rfl rfl (Nat.le_of_ble_eq_true rfl) rfl dX9_lawHolds_19 ?_
      refine g_aload_n F 0 rfl dX9_lawHolds_22 ?_
      refine g_get F 9 0 2 inX9 rfl rfl (by decide) tw_fl_X9_18 rfl dX9_lawHolds_23 ?_
      refine g_if_ne F 33 dX9_lawHolds_26 (by decide) (fun _ => ?_) (fun h => absurd h (by decide))
      refine g_iconst F (nI 0) (by decide) dX9_lawHolds_33 ?_
      exact R _ ((br2_11, 1)) _ _ dX9_lawHolds_34 (Or.inl rfl) (Or.inr ⟨rfl, rfl, h_11⟩)
    · refine g_put F 9 0 2 [ob tb 9 [.ref ta, .ref ba, .int 0, .int chk], ia E ta 3600 td, ia E ba 3 br2_11] inX9 tyX9_ok nmX9 rfl rfl (by decide) tw_fl_X9_18 rfl rfl rfl rfl (Nat.le_of_ble_eq_true rfl) rfl dX9_lawHolds_14 ?_
      refine g_aload_n F 0 rfl dX9_lawHolds_17 ?_
      refine g_iload_n F 1 rfl dX9_lawHolds_18 ?_
      refine g_put F 9 0 3 [ob tb 9 [.ref ta, .ref ba, .int 0, .int (nI n)], ia E ta 3600 td, ia E ba 3 br2_11] inX9 tyX9_ok nmX9 rfl rfl (by decide) tw_fl_X9_22 rfl rfl rfl rfl (Nat.le_of_ble_eq_true rfl) rfl dX9_lawHolds_19 ?_
      refine g_aload_n F 0 rfl dX9_lawHolds_22 ?_
      refine g_get F 9 0 2 inX9 rfl rfl (by decide) tw_fl_X9_18 rfl dX9_lawHolds_23 ?_
      refine g_if_ne F 33 dX9_lawHolds_26 (by decide) (fun h => absurd (by decide) h) (fun _ => ?_)
      refine g_iconst F (nI 1) (by decide) dX9_lawHolds_29 ?_
      refine g_goto F 34 dX9_lawHolds_30 (by decide) ?_
      exact R _ ((br2_11, 0)) _ _ dX9_lawHolds_34 (Or.inr rfl) (Or.inl ⟨rfl, rfl, h_11⟩)
