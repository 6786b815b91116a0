theorem mb_sum {n k : Nat} {mf : Nat → Int32} {b : Nat → Nat} {I : Nat → Bool} (h : NBB n mf k b I) (g : Nat → Nat) : sumI g I n = sumB g b k := by
  obtain ⟨hb, hI, hn⟩ := h
  have key : ∀ j, ∃ i, i ≤ k ∧ (∀ q, q < i → b q < j) ∧ (∀ q, i ≤ q → q < k → j ≤ b q) ∧ sumI g I j = sumB g b i := by
    intro j
    induction j with
    | zero => exact ⟨0, Nat.zero_le _, fun q h => absurd h (Nat.not_lt_zero q), fun q _ _ => Nat.zero_le _, rfl⟩
    | succ j ih =>
      obtain ⟨i, h1, h2, h3, h4⟩ := ih
      by_cases c : I j = true
      · obtain ⟨q, hq, e⟩ := (hI j).mp c
        have hiq : i ≤ q := by
          rcases Nat.lt_or_ge q i with z | z
          · have := h2 q z; omega
          · exact z
        have e2 : q = i := by
          rcases Nat.lt_or_ge i q with z | z
          · have := hb.2.2 i q z hq
            have := h3 i (Nat.le_refl _) (by omega)
            omega
          · omega
        subst e2
        refine ⟨q + 1, hq, fun q2 hq2 => ?_, fun q2 hq2 hk2 => ?_, ?_⟩
        · rcases Nat.lt_or_ge q2 q with z | z
          · have := h2 q2 z; omega
          · rw [show q2 = q by omega]; omega
        · have := hb.2.2 q q2 (by omega) hk2
          omega
        · show sumI g I j + _ = sumB g b q + g (b q)
          rw [if_pos c, h4, e]
      · refine ⟨i, h1, fun q hq => by have := h2 q hq; omega, fun q hq hk => ?_, ?_⟩
        · have a := h3 q hq hk
          rcases Nat.lt_or_ge j (b q) with z | z
          · exact z
          · exact absurd ((hI j).mpr ⟨q, hk, by omega⟩) c
        · show sumI g I j + _ = _
          rw [if_neg c]; exact h4
  obtain ⟨i, h1, h2, h3, h4⟩ := key n
  have e : i = k := by
    rcases Nat.lt_or_ge i k with z | z
    · have a := h3 i (Nat.le_refl _) z
      have := hn _ (hI.at z)
      omega
    · omega
  rw [h4, e]
theorem sumI_c1 (I : Nat → Bool) : ∀ i, sumI (fun _ => 1) I i = cI I i := by
  intro i
  induction i with
  | zero => rfl
  | succ i ih => show sumI _ I i + _ = cI I i + _; rw [ih]
theorem sumB_c1 (b : Nat → Nat) : ∀ i, sumB (fun _ => 1) b i = i := by
  intro i
  induction i with
  | zero => rfl
  | succ i ih => show sumB _ b i + 1 = _; rw [ih]
theorem mb_cI {n k : Nat} {mf : Nat → Int32} {b : Nat → Nat} {I : Nat → Bool} (h : NBB n mf k b I) : cI I n = k := by
  rw [← sumI_c1, mb_sum h, sumB_c1]
theorem sumB_congr {g h b : Nat → Nat} : ∀ k, (∀ i, i < k → g (b i) = h (b i)) → sumB g b k = sumB h b k := by
  intro k
  induction k with
  | zero => intro _; rfl
  | succ k ih =>
    intro e
    show sumB g b k + g (b k) = sumB h b k + h (b k)
    rw [ih (fun i hi => e i (by omega)), e k (by omega)]
theorem ce_uni {dd : Nat → Nat → Nat} {I : Nat → Bool} {c : Nat} {t t' g g' : Nat → Nat} (h : CE dd I t g c) (h' : CE dd I t' g' c) : ∀ i, i < c → t i = t' i ∧ g i = g' i := by
  intro i
  induction i using Nat.strongRecOn with
  | ind i ih =>
    intro hi
    obtain ⟨a1, a2, a3, a4⟩ := h i hi
    obtain ⟨b1, b2, b3, b4⟩ := h' i hi
    have low : ∀ j, j < i → t j = t' j := fun j hj => (ih j hj (by omega)).1
    rcases Nat.eq_zero_or_pos i with q | q
    · have e1 := (a3 q).2 _ b1
      have e2 := (b3 q).2 _ a1
      have e3 := (a3 q).1
      have e4 := (b3 q).1
      omega
    · have mm : ∀ x, md dd t i x = md dd t' i x := fun x => md_congr x low
      obtain ⟨c1, c2⟩ := a4 q
      obtain ⟨d1, d2⟩ := b4 q
      have e1 := c2 (t' i) b1 (fun j hj e => b2 j hj (by rw [← low j hj]; exact e))
      have e2 := d2 (t i) a1 (fun j hj e => a2 j hj (by rw [low j hj]; exact e))
      rw [← mm] at d1 e2
      rw [mm] at c1 e2
      rw [mm] at e1
      rw [← mm] at c1 e2
      rw [← mm] at e1
      omega
theorem rad_same {dd : Nat → Nat → Nat} {I : Nat → Bool} {c r r' : Nat} {t t' : Nat → Nat} (e : ∀ i, i < c → t i = t' i) (h : RAD dd I t c r) (h' : RAD dd I t' c r') : r = r' := by
  have mm : ∀ x, md dd t c x = md dd t' c x := fun x => md_congr x e
  refine rad_uni h ⟨fun x hx => by rw [mm]; exact h'.1 x hx, ?_⟩
  obtain ⟨x, hx, e2⟩ := h'.2
  exact ⟨x, hx, by rw [mm]; exact e2⟩
theorem bsp_uni {dd : Nat → Nat → Nat} {I : Nat → Bool} {q r r' : Nat} {t t' : Nat → Nat} (hq : q ≤ 2) (h : BSP dd I q t r) (h' : BSP dd I q t' r') : r = r' ∧ ∀ i, i ≤ q → t i = t' i := by
  obtain ⟨a1, a2, a3, a4⟩ := h
  obtain ⟨b1, b2, b3, b4⟩ := h'
  have e1 := a4 t' b1 r' b2
  have e2 := b4 t a1 r a2
  unfold lxl at e1 e2
  refine ⟨by omega, fun i hi => ?_⟩
  rcases (show i = 0 ∨ i = 1 ∨ i = 2 by omega) with rfl | rfl | rfl <;> omega
theorem clo_uni {dd : Nat → Nat → Nat} {I : Nat → Bool} {x y u v : Nat} (h60 : ∀ t, I t = true → t < 60) (h : CLO dd I x y) (h' : CLO dd I u v) : x = u ∧ y = v := by
  obtain ⟨a1, a2, a3, a4⟩ := h
  obtain ⟨b1, b2, b3, b4⟩ := h'
  have e1 := a4 u v b1 b2 b3
  have e2 := b4 x y a1 a2 a3
  rcases pk_inj (h60 x a1) (h60 y a2) (h60 u b1) (h60 v b2) (Nat.le_antisymm e1 e2) with q | q <;> omega
theorem same_nI {x : Int32} {a b : Nat} (ha : a < 2 ^ 31) (hb : b < 2 ^ 31) (e1 : x = nI a) (e2 : x = nI b) : a = b := (nI_eq ha hb).mp (e1.symm.trans e2)
theorem six {x : Int32} {P0 P1 P2 P3 P4 P5 : Prop} (h : (x = 0 ∧ P0) ∨ (x = 1 ∧ P1) ∨ (x = 2 ∧ P2) ∨ (x = 3 ∧ P3) ∨ (x = 4 ∧ P4) ∨ ((x ≠ 0 ∧ x ≠ 1 ∧ x ≠ 2 ∧ x ≠ 3 ∧ x ≠ 4) ∧ P5)) : (x = 0 → P0) ∧ (x = 1 → P1) ∧ (x = 2 → P2) ∧ (x = 3 → P3) ∧ (x = 4 → P4) ∧ ((x ≠ 0 ∧ x ≠ 1 ∧ x ≠ 2 ∧ x ≠ 3 ∧ x ≠ 4) → P5) := by
  rcases h with ⟨rfl, h⟩ | ⟨rfl, h⟩ | ⟨rfl, h⟩ | ⟨rfl, h⟩ | ⟨rfl, h⟩ | ⟨⟨h0, h1, h2, h3, h4⟩, h⟩
  · exact ⟨fun _ => h, fun z => absurd z (by decide), fun z => absurd z (by decide), fun z => absurd z (by decide), fun z => absurd z (by decide), fun z => absurd rfl z.1⟩
  · exact ⟨fun z => absurd z (by decide), fun _ => h, fun z => absurd z (by decide), fun z => absurd z (by decide), fun z => absurd z (by decide), fun z => absurd rfl z.2.1⟩
  · exact ⟨fun z => absurd z (by decide), fun z => absurd z (by decide), fun _ => h, fun z => absurd z (by decide), fun z => absurd z (by decide), fun z => absurd rfl z.2.2.1⟩
  · exact ⟨fun z => absurd z (by decide), fun z => absurd z (by decide), fun z => absurd z (by decide), fun _ => h, fun z => absurd z (by decide), fun z => absurd rfl z.2.2.2.1⟩
  · exact ⟨fun z => absurd z (by decide), fun z => absurd z (by decide), fun z => absurd z (by decide), fun z => absurd z (by decide), fun _ => h, fun z => absurd rfl z.2.2.2.2⟩
  · exact ⟨fun z => absurd z h0, fun z => absurd z h1, fun z => absurd z h2, fun z => absurd z h3, fun z => absurd z h4, fun _ => h⟩
/-- the two result rows tell the same -/
def RR2 (rk : Nat) (rf rg rfm rgm : Nat → Int32) : Prop := ∃ rt ra, NBR rk rf rg rt ra ∧ NBR rk rfm rgm rt ra

theorem ag_thing {n : Nat} {kd : Nat} {k : Nat} {rk : Nat} {L : Nat → Nat} {tN : Nat → Nat} {b : Nat → Nat} {I : Nat → Bool} {rt : Nat → Nat} {ra : Nat → Nat} {ln : Nat → Int32} {pl : Nat → Int32} {td : Nat → Int32} {br : Nat → Int32} {brk : Int32} {chk : Int32} {kn : Nat → Int32} {mf : Nat → Int32} {rf : Nat → Int32} {rg : Nat → Int32} {zi : Nat → Int32} {rfm : Nat → Int32} {rgm : Nat → Int32} {x : Int32} {r1 r2 : Int32} {n2 : Nat} {ln2 : Nat → Int32} {n2m : Nat} {ln2m : Nat → Int32} (hK : NBK n kd L ln pl tN td br brk chk kn) (hM : NBB n mf k b I) (hR : NBR rk rf rg rt ra) (hZ : ZI n zi I) (hRm : NBR rk rfm rgm rt ra) (h1 : (∃ v0, v0 ≤ 8 ∧ x = nI v0 ∧ n < 60 ∧ r1 = nI n ∧ n2 = n + 1 ∧ ln2 = upd ln n x) ∨ ((n = 60 ∨ ∀ v0, v0 ≤ 8 → x ≠ nI v0) ∧ r1 = -1 ∧ n2 = n ∧ ln2 = ln)) (h2 : (∃ v0, v0 ≤ 8 ∧ x = nI v0 ∧ n < 60 ∧ r2 = nI n ∧ n2m = n + 1 ∧ ln2m = upd ln n x) ∨ ((n = 60 ∨ ∀ v0, v0 ≤ 8 → x ≠ nI v0) ∧ r2 = -1 ∧ n2m = n ∧ ln2m = ln)) : r1 = r2 ∧ n2m = n2 ∧ ln2m = ln2 ∧ ∃ L2, NBK n2 kd L2 ln2 pl tN td br brk chk kn ∧ NBB n2 mf k b I ∧ ZI n2 zi I := by
  have hn := hK.1
  rcases h1 with ⟨v0, a1, a2, a3, a4, a5, a6⟩ | ⟨a1, a2, a3, a4⟩ <;> rcases h2 with ⟨w0, b1, b2, b3, b4, b5, b6⟩ | ⟨b1, b2, b3, b4⟩
  · refine ⟨a4.trans b4.symm, by rw [a5, b5], by rw [a6, b6], setN L n v0, ?_, ?_, ?_⟩
    · rw [a5, a6, a2]; exact nbk_thing hK a3 a1
    · rw [a5]; exact ⟨hM.1, hM.2.1, fun t ht => Nat.lt_succ_of_lt (hM.2.2 t ht)⟩
    · rw [a5]; exact ⟨hZ.1, fun t ht => Nat.lt_succ_of_lt (hZ.2 t ht)⟩
  · exfalso
    rcases b1 with q | q
    · omega
    · exact q v0 a1 a2
  · exfalso
    rcases a1 with q | q
    · omega
    · exact q w0 b1 b2
  · exact ⟨a2.trans b2.symm, by rw [a3, b3], by rw [a4, b4], L, by rw [a3, a4]; exact hK, by rw [a3]; exact hM, by rw [a3]; exact hZ⟩

theorem ag_value {n : Nat} {kd : Nat} {k : Nat} {rk : Nat} {L : Nat → Nat} {tN : Nat → Nat} {b : Nat → Nat} {I : Nat → Bool} {rt : Nat → Nat} {ra : Nat → Nat} {ln : Nat → Int32} {pl : Nat → Int32} {td : Nat → Int32} {br : Nat → Int32} {brk : Int32} {chk : Int32} {kn : Nat → Int32} {mf : Nat → Int32} {rf : Nat → Int32} {rg : Nat → Int32} {zi : Nat → Int32} {rfm : Nat → Int32} {rgm : Nat → Int32} {x : Int32} {y : Int32} {z : Int32} {r1 r2 : Int32} {pl2 : Nat → Int32} {kn2 : Nat → Int32} {pl2m : Nat → Int32} (hK : NBK n kd L ln pl tN td br brk chk kn) (hM : NBB n mf k b I) (hR : NBR rk rf rg rt ra) (hZ : ZI n zi I) (hRm : NBR rk rfm rgm rt ra) (h1 : NBK n kd L ln pl2 tN td br brk chk kn2 ∧ ((∃ t0 i0, OKV n L x y z t0 i0 ∧ r1 = 1 ∧ pl2 = upd pl (t0 * 8 + i0) z) ∨ ((∀ t0 i0, ¬ OKV n L x y z t0 i0) ∧ r1 = 0 ∧ pl2 = pl))) (h2 : (∃ t0 i0, OKV n L x y z t0 i0 ∧ r2 = 1 ∧ pl2m = upd pl (t0 * 8 + i0) z) ∨ ((∀ t0 i0, ¬ OKV n L x y z t0 i0) ∧ r2 = 0 ∧ pl2m = pl)) : r1 = r2 ∧ pl2m = pl2 := by
  have hn := hK.1
  have h1 := h1.2
  rcases h1 with ⟨t0, i0, a1, a2, a3⟩ | ⟨a1, a2, a3⟩ <;> rcases h2 with ⟨u0, j0, b1, b2, b3⟩ | ⟨b1, b2, b3⟩
  · obtain ⟨p1, p2, p3, p4, -⟩ := a1
    obtain ⟨q1, q2, q3, q4, -⟩ := b1
    obtain rfl := same_nI (by omega) (by omega) p2 q2
    have l8 := (hK.2.2.1 t0 (by omega)).2
    obtain rfl := same_nI (by omega) (by omega) p4 q4
    exact ⟨a2.trans b2.symm, by rw [a3, b3]⟩
  · exact absurd a1 (b1 _ _)
  · exact absurd b1 (a1 _ _)
  · exact ⟨a2.trans b2.symm, by rw [a3, b3]⟩

theorem ag_tell {n : Nat} {kd : Nat} {k : Nat} {rk : Nat} {L : Nat → Nat} {tN : Nat → Nat} {b : Nat → Nat} {I : Nat → Bool} {rt : Nat → Nat} {ra : Nat → Nat} {ln : Nat → Int32} {pl : Nat → Int32} {td : Nat → Int32} {br : Nat → Int32} {brk : Int32} {chk : Int32} {kn : Nat → Int32} {mf : Nat → Int32} {rf : Nat → Int32} {rg : Nat → Int32} {zi : Nat → Int32} {rfm : Nat → Int32} {rgm : Nat → Int32} {x : Int32} {y : Int32} {z : Int32} {r1 r2 : Int32} {td2 : Nat → Int32} {ck2 : Int32} {kn2 : Nat → Int32} {td2m : Nat → Int32} (hK : NBK n kd L ln pl tN td br brk chk kn) (hM : NBB n mf k b I) (hR : NBR rk rf rg rt ra) (hZ : ZI n zi I) (hRm : NBR rk rfm rgm rt ra) (h1 : (∃ p0 q0 e0, OKT n x y z p0 q0 e0 ∧ r1 = 1 ∧ td2 = upd (upd td (p0 * 60 + q0) z) (q0 * 60 + p0) z ∧ NBK n kd L ln pl (setN (setN tN (p0 * 60 + q0) e0) (q0 * 60 + p0) e0) td2 br brk ck2 kn2) ∨ ((∀ p0 q0 e0, ¬ OKT n x y z p0 q0 e0) ∧ r1 = 0 ∧ td2 = td ∧ NBK n kd L ln pl tN td br brk ck2 kn2)) (h2 : (∃ p0 q0 e0, OKT n x y z p0 q0 e0 ∧ r2 = 1 ∧ td2m = upd (upd td (p0 * 60 + q0) z) (q0 * 60 + p0) z) ∨ ((∀ p0 q0 e0, ¬ OKT n x y z p0 q0 e0) ∧ r2 = 0 ∧ td2m = td)) : r1 = r2 ∧ td2m = td2 ∧ ∃ tN2, NBK n kd L ln pl tN2 td2 br brk ck2 kn2 := by
  have hn := hK.1
  rcases h1 with ⟨p0, q0, e0, a1, a2, a3, a4⟩ | ⟨a1, a2, a3, a4⟩ <;> rcases h2 with ⟨u0, v0, f0, b1, b2, b3⟩ | ⟨b1, b2, b3⟩
  · have c1 := a1
    obtain ⟨p1, p2, p3, p4, -⟩ := a1
    obtain ⟨q1, q2, q3, q4, -⟩ := b1
    obtain rfl := same_nI (by omega) (by omega) p3 q3
    obtain rfl := same_nI (by omega) (by omega) p4 q4
    exact ⟨a2.trans b2.symm, by rw [a3, b3], _, a4⟩
  · exact absurd a1 (b1 _ _ _)
  · exact absurd b1 (a1 _ _ _)
  · exact ⟨a2.trans b2.symm, by rw [a3, b3], _, by rw [a3]; exact a4⟩

theorem ag_kind {n : Nat} {kd : Nat} {k : Nat} {rk : Nat} {L : Nat → Nat} {tN : Nat → Nat} {b : Nat → Nat} {I : Nat → Bool} {rt : Nat → Nat} {ra : Nat → Nat} {ln : Nat → Int32} {pl : Nat → Int32} {td : Nat → Int32} {br : Nat → Int32} {brk : Int32} {chk : Int32} {kn : Nat → Int32} {mf : Nat → Int32} {rf : Nat → Int32} {rg : Nat → Int32} {zi : Nat → Int32} {rfm : Nat → Int32} {rgm : Nat → Int32} {x : Int32} {r1 r2 : Int32} {kd2 : Nat} {kn2 : Nat → Int32} {kd2m : Nat} (hK : NBK n kd L ln pl tN td br brk chk kn) (hM : NBB n mf k b I) (hR : NBR rk rf rg rt ra) (hZ : ZI n zi I) (hRm : NBR rk rfm rgm rt ra) (h1 : NBK n kd2 L ln pl tN td br brk chk kn2 ∧ ((∃ k2, k2 ≤ 5 ∧ x = nI k2 ∧ r1 = 1 ∧ kd2 = k2) ∨ ((∀ k2, k2 ≤ 5 → x ≠ nI k2) ∧ r1 = 0 ∧ kd2 = kd))) (h2 : (∃ k2, k2 ≤ 5 ∧ x = nI k2 ∧ r2 = 1 ∧ kd2m = k2) ∨ ((∀ k2, k2 ≤ 5 → x ≠ nI k2) ∧ r2 = 0 ∧ kd2m = kd)) : r1 = r2 ∧ kd2m = kd2 := by
  have h1 := h1.2
  rcases h1 with ⟨k2, a1, a2, a3, a4⟩ | ⟨a1, a2, a3⟩ <;> rcases h2 with ⟨j2, b1, b2, b3, b4⟩ | ⟨b1, b2, b3⟩
  · obtain rfl := same_nI (by omega) (by omega) a2 b2
    exact ⟨a3.trans b3.symm, by rw [a4, b4]⟩
  · exact absurd a2 (b1 _ a1)
  · exact absurd b2 (a1 _ b1)
  · exact ⟨a2.trans b2.symm, by rw [a3, b3]⟩

theorem ag_distance {n : Nat} {kd : Nat} {k : Nat} {rk : Nat} {L : Nat → Nat} {tN : Nat → Nat} {b : Nat → Nat} {I : Nat → Bool} {rt : Nat → Nat} {ra : Nat → Nat} {ln : Nat → Int32} {pl : Nat → Int32} {td : Nat → Int32} {br : Nat → Int32} {brk : Int32} {chk : Int32} {kn : Nat → Int32} {mf : Nat → Int32} {rf : Nat → Int32} {rg : Nat → Int32} {zi : Nat → Int32} {rfm : Nat → Int32} {rgm : Nat → Int32} {x : Int32} {y : Int32} {r1 r2 : Int32} {kn2 : Nat → Int32}  (hK : NBK n kd L ln pl tN td br brk chk kn) (hM : NBB n mf k b I) (hR : NBR rk rf rg rt ra) (hZ : ZI n zi I) (hRm : NBR rk rfm rgm rt ra) (h1 : NBK n kd L ln pl tN td br brk chk kn2 ∧ ((∃ p0 q0, p0 < n ∧ q0 < n ∧ x = nI p0 ∧ y = nI q0 ∧ r1 = nI (dsN kd L pl tN p0 q0)) ∨ ((∀ p0 q0, p0 < n → q0 < n → x = nI p0 → y ≠ nI q0) ∧ r1 = -1))) (h2 : (∃ p0 q0, p0 < n ∧ q0 < n ∧ x = nI p0 ∧ y = nI q0 ∧ r2 = nI (dsN kd L pl tN p0 q0)) ∨ ((∀ p0 q0, p0 < n → q0 < n → x = nI p0 → y ≠ nI q0) ∧ r2 = -1)) : r1 = r2 := by
  have hn := hK.1
  have h1 := h1.2
  rcases h1 with ⟨p0, q0, a1, a2, a3, a4, a5⟩ | ⟨a1, a2⟩ <;> rcases h2 with ⟨u0, v0, b1, b2, b3, b4, b5⟩ | ⟨b1, b2⟩
  · obtain rfl := same_nI (by omega) (by omega) a3 b3
    obtain rfl := same_nI (by omega) (by omega) a4 b4
    exact a5.trans b5.symm
  · exact absurd a4 (b1 _ _ a1 a2 a3)
  · exact absurd b4 (a1 _ _ b1 b2 b3)
  · exact a2.trans b2.symm

theorem ag_law {n : Nat} {kd : Nat} {k : Nat} {rk : Nat} {L : Nat → Nat} {tN : Nat → Nat} {b : Nat → Nat} {I : Nat → Bool} {rt : Nat → Nat} {ra : Nat → Nat} {ln : Nat → Int32} {pl : Nat → Int32} {td : Nat → Int32} {br : Nat → Int32} {brk : Int32} {chk : Int32} {kn : Nat → Int32} {mf : Nat → Int32} {rf : Nat → Int32} {rg : Nat → Int32} {zi : Nat → Int32} {rfm : Nat → Int32} {rgm : Nat → Int32} {r1 r2 : Int32} {br2 : Nat → Int32} {bk2 : Int32} {ck2 : Int32}  (hK : NBK n kd L ln pl tN td br brk chk kn) (hM : NBB n mf k b I) (hR : NBR rk rf rg rt ra) (hZ : ZI n zi I) (hRm : NBR rk rfm rgm rt ra) (h1 : NBK n kd L ln pl tN td br2 bk2 ck2 kn ∧ ((LWK kd tN n ∧ r1 = 1) ∨ (¬ LWK kd tN n ∧ r1 = 0))) (h2 : (LWK kd tN n ∧ r2 = 1) ∨ (¬ LWK kd tN n ∧ r2 = 0)) : r1 = r2 := by
  have h1 := h1.2
  rcases h1 with ⟨a1, a2⟩ | ⟨a1, a2⟩ <;> rcases h2 with ⟨b1, b2⟩ | ⟨b1, b2⟩
  · exact a2.trans b2.symm
  · exact absurd a1 b1
  · exact absurd b1 a1
  · exact a2.trans b2.symm

theorem ag_three {n : Nat} {kd : Nat} {k : Nat} {rk : Nat} {L : Nat → Nat} {tN : Nat → Nat} {b : Nat → Nat} {I : Nat → Bool} {rt : Nat → Nat} {ra : Nat → Nat} {ln : Nat → Int32} {pl : Nat → Int32} {td : Nat → Int32} {br : Nat → Int32} {brk : Int32} {chk : Int32} {kn : Nat → Int32} {mf : Nat → Int32} {rf : Nat → Int32} {rg : Nat → Int32} {zi : Nat → Int32} {rfm : Nat → Int32} {rgm : Nat → Int32} {x : Int32} {r1 r2 : Int32} {br2 : Nat → Int32} {bk2 : Int32} {ck2 : Int32}  (hK : NBK n kd L ln pl tN td br brk chk kn) (hM : NBB n mf k b I) (hR : NBR rk rf rg rt ra) (hZ : ZI n zi I) (hRm : NBR rk rfm rgm rt ra) (h1 : NBK n kd L ln pl tN td br2 bk2 ck2 kn ∧ ((∃ i0, i0 ≤ 2 ∧ x = nI i0 ∧ ¬ LWK kd tN n ∧ ∃ a0 b0 c0, BR tN n a0 b0 c0 ∧ r1 = nI (if i0 = 0 then a0 else if i0 = 1 then b0 else c0)) ∨ (((∀ i0, i0 ≤ 2 → x ≠ nI i0) ∨ LWK kd tN n) ∧ r1 = -1))) (h2 : (∃ i0, i0 ≤ 2 ∧ x = nI i0 ∧ ¬ LWK kd tN n ∧ ∃ a0 b0 c0, BR tN n a0 b0 c0 ∧ r2 = nI (if i0 = 0 then a0 else if i0 = 1 then b0 else c0)) ∨ (((∀ i0, i0 ≤ 2 → x ≠ nI i0) ∨ LWK kd tN n) ∧ r2 = -1)) : r1 = r2 := by
  have h1 := h1.2
  rcases h1 with ⟨i0, a1, a2, a3, x0, y0, z0, a4, a5⟩ | ⟨a1, a2⟩ <;> rcases h2 with ⟨j0, b1, b2, b3, u0, v0, w0, b4, b5⟩ | ⟨b1, b2⟩
  · obtain rfl := same_nI (by omega) (by omega) a2 b2
    obtain ⟨rfl, rfl, rfl⟩ := br_uni a4 b4
    exact a5.trans b5.symm
  · rcases b1 with q | q
    · exact absurd a2 (q _ a1)
    · exact absurd q a3
  · rcases a1 with q | q
    · exact absurd b2 (q _ b1)
    · exact absurd q b3
  · exact a2.trans b2.symm

theorem ag_put {n : Nat} {kd : Nat} {k : Nat} {rk : Nat} {L : Nat → Nat} {tN : Nat → Nat} {b : Nat → Nat} {I : Nat → Bool} {rt : Nat → Nat} {ra : Nat → Nat} {ln : Nat → Int32} {pl : Nat → Int32} {td : Nat → Int32} {br : Nat → Int32} {brk : Int32} {chk : Int32} {kn : Nat → Int32} {mf : Nat → Int32} {rf : Nat → Int32} {rg : Nat → Int32} {zi : Nat → Int32} {rfm : Nat → Int32} {rgm : Nat → Int32} {x : Int32} {r1 r2 : Int32} {mf2 : Nat → Int32} {k2 : Nat} {zi2m : Nat → Int32} (hK : NBK n kd L ln pl tN td br brk chk kn) (hM : NBB n mf k b I) (hR : NBR rk rf rg rt ra) (hZ : ZI n zi I) (hRm : NBR rk rfm rgm rt ra) (h1 : (∃ t0, t0 < n ∧ x = nI t0 ∧ I t0 = false ∧ r1 = 1 ∧ ∃ b2, NBB n mf2 k2 b2 (setB I t0)) ∨ ((∀ t0, t0 < n → x = nI t0 → I t0 = true) ∧ r1 = 0 ∧ ∃ b2, NBB n mf2 k2 b2 I)) (h2 : (∃ t0, t0 < n ∧ x = nI t0 ∧ I t0 = false ∧ r2 = 1 ∧ ZI n zi2m (setB I t0)) ∨ ((∀ t0, t0 < n → x = nI t0 → I t0 = true) ∧ r2 = 0 ∧ ZI n zi2m I)) : r1 = r2 ∧ ∃ I2 b2, NBB n mf2 k2 b2 I2 ∧ ZI n zi2m I2 := by
  have hn := hK.1
  rcases h1 with ⟨t0, a1, a2, a3, a4, b2, a5⟩ | ⟨a1, a2, b2, a3⟩ <;> rcases h2 with ⟨u0, b1, c2, b3, b4, b5⟩ | ⟨b1, c2, b3⟩
  · obtain rfl := same_nI (by omega) (by omega) a2 c2
    exact ⟨a4.trans b4.symm, _, _, a5, b5⟩
  · have := b1 _ a1 a2
    rw [a3] at this; cases this
  · have := a1 _ b1 c2
    rw [b3] at this; cases this
  · exact ⟨a2.trans c2.symm, _, _, a3, b3⟩

theorem ag_drop {n : Nat} {kd : Nat} {k : Nat} {rk : Nat} {L : Nat → Nat} {tN : Nat → Nat} {b : Nat → Nat} {I : Nat → Bool} {rt : Nat → Nat} {ra : Nat → Nat} {ln : Nat → Int32} {pl : Nat → Int32} {td : Nat → Int32} {br : Nat → Int32} {brk : Int32} {chk : Int32} {kn : Nat → Int32} {mf : Nat → Int32} {rf : Nat → Int32} {rg : Nat → Int32} {zi : Nat → Int32} {rfm : Nat → Int32} {rgm : Nat → Int32} {x : Int32} {r1 r2 : Int32} {mf2 : Nat → Int32} {k2 : Nat} {zi2m : Nat → Int32} (hK : NBK n kd L ln pl tN td br brk chk kn) (hM : NBB n mf k b I) (hR : NBR rk rf rg rt ra) (hZ : ZI n zi I) (hRm : NBR rk rfm rgm rt ra) (h1 : (∃ t0, t0 < n ∧ x = nI t0 ∧ I t0 = true ∧ r1 = 1 ∧ ∃ b2, NBB n mf2 k2 b2 (clrB I t0)) ∨ ((∀ t0, t0 < n → x = nI t0 → I t0 = false) ∧ r1 = 0 ∧ ∃ b2, NBB n mf2 k2 b2 I)) (h2 : (∃ t0, t0 < n ∧ x = nI t0 ∧ I t0 = true ∧ r2 = 1 ∧ ZI n zi2m (clrB I t0)) ∨ ((∀ t0, t0 < n → x = nI t0 → I t0 = false) ∧ r2 = 0 ∧ ZI n zi2m I)) : r1 = r2 ∧ ∃ I2 b2, NBB n mf2 k2 b2 I2 ∧ ZI n zi2m I2 := by
  have hn := hK.1
  rcases h1 with ⟨t0, a1, a2, a3, a4, b2, a5⟩ | ⟨a1, a2, b2, a3⟩ <;> rcases h2 with ⟨u0, b1, c2, b3, b4, b5⟩ | ⟨b1, c2, b3⟩
  · obtain rfl := same_nI (by omega) (by omega) a2 c2
    exact ⟨a4.trans b4.symm, _, _, a5, b5⟩
  · have := b1 _ a1 a2
    rw [a3] at this; cases this
  · have := a1 _ b1 c2
    rw [b3] at this; cases this
  · exact ⟨a2.trans c2.symm, _, _, a3, b3⟩

theorem ag_has {n : Nat} {kd : Nat} {k : Nat} {rk : Nat} {L : Nat → Nat} {tN : Nat → Nat} {b : Nat → Nat} {I : Nat → Bool} {rt : Nat → Nat} {ra : Nat → Nat} {ln : Nat → Int32} {pl : Nat → Int32} {td : Nat → Int32} {br : Nat → Int32} {brk : Int32} {chk : Int32} {kn : Nat → Int32} {mf : Nat → Int32} {rf : Nat → Int32} {rg : Nat → Int32} {zi : Nat → Int32} {rfm : Nat → Int32} {rgm : Nat → Int32} {x : Int32} {r1 r2 : Int32}   (hK : NBK n kd L ln pl tN td br brk chk kn) (hM : NBB n mf k b I) (hR : NBR rk rf rg rt ra) (hZ : ZI n zi I) (hRm : NBR rk rfm rgm rt ra) (h1 : (∃ t0, t0 < n ∧ x = nI t0 ∧ r1 = if I t0 = true then 1 else 0) ∨ ((∀ t0, t0 < n → x ≠ nI t0) ∧ r1 = -1)) (h2 : (∃ t0, t0 < n ∧ x = nI t0 ∧ r2 = if I t0 = true then 1 else 0) ∨ ((∀ t0, t0 < n → x ≠ nI t0) ∧ r2 = -1)) : r1 = r2 := by
  have hn := hK.1
  rcases h1 with ⟨t0, a1, a2, a3⟩ | ⟨a1, a2⟩ <;> rcases h2 with ⟨u0, b1, b2, b3⟩ | ⟨b1, b2⟩
  · obtain rfl := same_nI (by omega) (by omega) a2 b2
    exact a3.trans b3.symm
  · exact absurd a2 (b1 _ a1)
  · exact absurd b2 (a1 _ b1)
  · exact a2.trans b2.symm

theorem ag_result {n : Nat} {kd : Nat} {k : Nat} {rk : Nat} {L : Nat → Nat} {tN : Nat → Nat} {b : Nat → Nat} {I : Nat → Bool} {rt : Nat → Nat} {ra : Nat → Nat} {ln : Nat → Int32} {pl : Nat → Int32} {td : Nat → Int32} {br : Nat → Int32} {brk : Int32} {chk : Int32} {kn : Nat → Int32} {mf : Nat → Int32} {rf : Nat → Int32} {rg : Nat → Int32} {zi : Nat → Int32} {rfm : Nat → Int32} {rgm : Nat → Int32} {x : Int32} {y : Int32} {r1 r2 : Int32}   (hK : NBK n kd L ln pl tN td br brk chk kn) (hM : NBB n mf k b I) (hR : NBR rk rf rg rt ra) (hZ : ZI n zi I) (hRm : NBR rk rfm rgm rt ra) (h1 : (∃ j0, j0 < rk ∧ x = nI j0 ∧ r1 = if y = 0 then nI (rt j0) else if y = 1 then nI (ra j0) else -1) ∨ ((∀ j0, j0 < rk → x ≠ nI j0) ∧ r1 = -1)) (h2 : (∃ j0, j0 < rk ∧ x = nI j0 ∧ r2 = if y = 0 then nI (rt j0) else if y = 1 then nI (ra j0) else -1) ∨ ((∀ j0, j0 < rk → x ≠ nI j0) ∧ r2 = -1)) : r1 = r2 := by
  have hr := hR.1
  rcases h1 with ⟨t0, a1, a2, a3⟩ | ⟨a1, a2⟩ <;> rcases h2 with ⟨u0, b1, b2, b3⟩ | ⟨b1, b2⟩
  · obtain rfl := same_nI (by omega) (by omega) a2 b2
    exact a3.trans b3.symm
  · exact absurd a2 (b1 _ a1)
  · exact absurd b2 (a1 _ b1)
  · exact a2.trans b2.symm

theorem ag_nearest {n : Nat} {kd : Nat} {k : Nat} {rk : Nat} {L : Nat → Nat} {tN : Nat → Nat} {b : Nat → Nat} {I : Nat → Bool} {rt : Nat → Nat} {ra : Nat → Nat} {ln : Nat → Int32} {pl : Nat → Int32} {td : Nat → Int32} {br : Nat → Int32} {brk : Int32} {chk : Int32} {kn : Nat → Int32} {mf : Nat → Int32} {rf : Nat → Int32} {rg : Nat → Int32} {zi : Nat → Int32} {rfm : Nat → Int32} {rgm : Nat → Int32} {x : Int32} {y : Int32} {r1 r2 : Int32} {br2 : Nat → Int32} {bk2 : Int32} {ck2 : Int32} {kn2 : Nat → Int32} {rf2 : Nat → Int32} {rg2 : Nat → Int32} {rk2 : Nat} {rf2m : Nat → Int32} {rg2m : Nat → Int32} {rk2m : Nat} (hK : NBK n kd L ln pl tN td br brk chk kn) (hM : NBB n mf k b I) (hR : NBR rk rf rg rt ra) (hZ : ZI n zi I) (hRm : NBR rk rfm rgm rt ra) (h1 : NBK n kd L ln pl tN td br2 bk2 ck2 kn2 ∧ ((∃ q0 g0, q0 < n ∧ x = nI q0 ∧ (1 ≤ g0 ∧ g0 ≤ 60 ∧ y = nI g0) ∧ LWK kd tN n ∧ ∃ ka, RKN (fun z0 => ∃ t0, I t0 = true ∧ dsN kd L pl tN q0 t0 ≤ 100000 ∧ z0 = dsN kd L pl tN q0 t0 * 60 + t0) g0 rk2 ka ∧ r1 = nI rk2 ∧ rk2 ≤ 60 ∧ ∀ i, i < rk2 → rf2 i = nI (ka i % 60) ∧ rg2 i = nI (dsN kd L pl tN q0 (ka i % 60))) ∨ ((∀ q0 g0, q0 < n → x = nI q0 → (1 ≤ g0 ∧ g0 ≤ 60 ∧ y = nI g0) → ¬ LWK kd tN n) ∧ r1 = -1 ∧ rf2 = rf ∧ rg2 = rg ∧ rk2 = rk))) (h2 : (∃ q0 g0, q0 < n ∧ x = nI q0 ∧ (1 ≤ g0 ∧ g0 ≤ 60 ∧ y = nI g0) ∧ LWK kd tN n ∧ ∃ ka, RKN (fun z0 => ∃ t0, I t0 = true ∧ dsN kd L pl tN q0 t0 ≤ 100000 ∧ z0 = dsN kd L pl tN q0 t0 * 60 + t0) g0 rk2m ka ∧ r2 = nI rk2m ∧ rk2m ≤ 60 ∧ ∀ i, i < rk2m → rf2m i = nI (ka i % 60) ∧ rg2m i = nI (dsN kd L pl tN q0 (ka i % 60))) ∨ ((∀ q0 g0, q0 < n → x = nI q0 → (1 ≤ g0 ∧ g0 ≤ 60 ∧ y = nI g0) → ¬ LWK kd tN n) ∧ r2 = -1 ∧ rf2m = rfm ∧ rg2m = rgm ∧ rk2m = rk)) : r1 = r2 ∧ rk2m = rk2 ∧ RR2 rk2 rf2 rg2 rf2m rg2m := by
  have hn := hK.1
  have h1 := h1.2
  rcases h1 with ⟨q0, g0, a1, a2, ⟨a3, a3b, a4⟩, a5, ka, a6, a7, a8, a9⟩ | ⟨a1, a2, a3, a4, a5⟩ <;> rcases h2 with ⟨u0, v0, b1, b2, ⟨b3, b3b, b4⟩, b5, kb, b6, b7, b8, b9⟩ | ⟨b1, b2, b3, b4, b5⟩
  · obtain rfl := same_nI (by omega) (by omega) a2 b2
    obtain rfl := same_nI (by omega) (by omega) a4 b4
    obtain ⟨e1, e2⟩ := rkn_uni a6 b6
    subst e1
    refine ⟨a7.trans b7.symm, rfl, _, _, ⟨a8, a9⟩, a8, fun i hi => ?_⟩
    have e9 := b9 i hi
    rw [← e2 i hi] at e9
    exact e9
  · exact absurd a5 (b1 _ _ a1 a2 ⟨a3, a3b, a4⟩)
  · exact absurd b5 (a1 _ _ b1 b2 ⟨b3, b3b, b4⟩)
  · refine ⟨a2.trans b2.symm, by rw [a5, b5], rt, ra, ?_, ?_⟩
    · rw [a3, a4, a5]; exact hR
    · rw [b3, b4, a5]; exact hRm

theorem ag_within {n : Nat} {kd : Nat} {k : Nat} {rk : Nat} {L : Nat → Nat} {tN : Nat → Nat} {b : Nat → Nat} {I : Nat → Bool} {rt : Nat → Nat} {ra : Nat → Nat} {ln : Nat → Int32} {pl : Nat → Int32} {td : Nat → Int32} {br : Nat → Int32} {brk : Int32} {chk : Int32} {kn : Nat → Int32} {mf : Nat → Int32} {rf : Nat → Int32} {rg : Nat → Int32} {zi : Nat → Int32} {rfm : Nat → Int32} {rgm : Nat → Int32} {x : Int32} {y : Int32} {r1 r2 : Int32} {br2 : Nat → Int32} {bk2 : Int32} {ck2 : Int32} {kn2 : Nat → Int32} {rf2 : Nat → Int32} {rg2 : Nat → Int32} {rk2 : Nat} {rf2m : Nat → Int32} {rg2m : Nat → Int32} {rk2m : Nat} (hK : NBK n kd L ln pl tN td br brk chk kn) (hM : NBB n mf k b I) (hR : NBR rk rf rg rt ra) (hZ : ZI n zi I) (hRm : NBR rk rfm rgm rt ra) (h1 : NBK n kd L ln pl tN td br2 bk2 ck2 kn2 ∧ ((∃ q0 g0, q0 < n ∧ x = nI q0 ∧ (g0 < 2 ^ 31 ∧ y = nI g0) ∧ LWK kd tN n ∧ ∃ ka, RKN (fun z0 => ∃ t0, I t0 = true ∧ dsN kd L pl tN q0 t0 ≤ g0 ∧ z0 = dsN kd L pl tN q0 t0 * 60 + t0) 60 rk2 ka ∧ r1 = nI rk2 ∧ rk2 ≤ 60 ∧ ∀ i, i < rk2 → rf2 i = nI (ka i % 60) ∧ rg2 i = nI (dsN kd L pl tN q0 (ka i % 60))) ∨ ((∀ q0 g0, q0 < n → x = nI q0 → (g0 < 2 ^ 31 ∧ y = nI g0) → ¬ LWK kd tN n) ∧ r1 = -1 ∧ rf2 = rf ∧ rg2 = rg ∧ rk2 = rk))) (h2 : (∃ q0 g0, q0 < n ∧ x = nI q0 ∧ (g0 < 2 ^ 31 ∧ y = nI g0) ∧ LWK kd tN n ∧ ∃ ka, RKN (fun z0 => ∃ t0, I t0 = true ∧ dsN kd L pl tN q0 t0 ≤ g0 ∧ z0 = dsN kd L pl tN q0 t0 * 60 + t0) 60 rk2m ka ∧ r2 = nI rk2m ∧ rk2m ≤ 60 ∧ ∀ i, i < rk2m → rf2m i = nI (ka i % 60) ∧ rg2m i = nI (dsN kd L pl tN q0 (ka i % 60))) ∨ ((∀ q0 g0, q0 < n → x = nI q0 → (g0 < 2 ^ 31 ∧ y = nI g0) → ¬ LWK kd tN n) ∧ r2 = -1 ∧ rf2m = rfm ∧ rg2m = rgm ∧ rk2m = rk)) : r1 = r2 ∧ rk2m = rk2 ∧ RR2 rk2 rf2 rg2 rf2m rg2m := by
  have hn := hK.1
  have h1 := h1.2
  rcases h1 with ⟨q0, g0, a1, a2, ⟨a3, a4⟩, a5, ka, a6, a7, a8, a9⟩ | ⟨a1, a2, a3, a4, a5⟩ <;> rcases h2 with ⟨u0, v0, b1, b2, ⟨b3, b4⟩, b5, kb, b6, b7, b8, b9⟩ | ⟨b1, b2, b3, b4, b5⟩
  · obtain rfl := same_nI (by omega) (by omega) a2 b2
    obtain rfl := same_nI (by omega) (by omega) a4 b4
    obtain ⟨e1, e2⟩ := rkn_uni a6 b6
    subst e1
    refine ⟨a7.trans b7.symm, rfl, _, _, ⟨a8, a9⟩, a8, fun i hi => ?_⟩
    have e9 := b9 i hi
    rw [← e2 i hi] at e9
    exact e9
  · exact absurd a5 (b1 _ _ a1 a2 ⟨a3, a4⟩)
  · exact absurd b5 (a1 _ _ b1 b2 ⟨b3, b4⟩)
  · refine ⟨a2.trans b2.symm, by rw [a5, b5], rt, ra, ?_, ?_⟩
    · rw [a3, a4, a5]; exact hR
    · rw [b3, b4, a5]; exact hRm

theorem ag_farthest {n : Nat} {kd : Nat} {k : Nat} {rk : Nat} {L : Nat → Nat} {tN : Nat → Nat} {b : Nat → Nat} {I : Nat → Bool} {rt : Nat → Nat} {ra : Nat → Nat} {ln : Nat → Int32} {pl : Nat → Int32} {td : Nat → Int32} {br : Nat → Int32} {brk : Int32} {chk : Int32} {kn : Nat → Int32} {mf : Nat → Int32} {rf : Nat → Int32} {rg : Nat → Int32} {zi : Nat → Int32} {rfm : Nat → Int32} {rgm : Nat → Int32} {x : Int32} {y : Int32} {r1 r2 : Int32} {br2 : Nat → Int32} {bk2 : Int32} {ck2 : Int32} {kn2 : Nat → Int32} {rf2 : Nat → Int32} {rg2 : Nat → Int32} {rk2 : Nat} {rf2m : Nat → Int32} {rg2m : Nat → Int32} {rk2m : Nat} (hK : NBK n kd L ln pl tN td br brk chk kn) (hM : NBB n mf k b I) (hR : NBR rk rf rg rt ra) (hZ : ZI n zi I) (hRm : NBR rk rfm rgm rt ra) (h1 : NBK n kd L ln pl tN td br2 bk2 ck2 kn2 ∧ ((∃ q0 g0, q0 < n ∧ x = nI q0 ∧ (1 ≤ g0 ∧ g0 ≤ 60 ∧ y = nI g0) ∧ LWK kd tN n ∧ ∃ ka, RKN (fun z0 => ∃ t0, I t0 = true ∧ z0 = (100000 - dsN kd L pl tN q0 t0) * 60 + t0) g0 rk2 ka ∧ r1 = nI rk2 ∧ rk2 ≤ 60 ∧ ∀ i, i < rk2 → rf2 i = nI (ka i % 60) ∧ rg2 i = nI (dsN kd L pl tN q0 (ka i % 60))) ∨ ((∀ q0 g0, q0 < n → x = nI q0 → (1 ≤ g0 ∧ g0 ≤ 60 ∧ y = nI g0) → ¬ LWK kd tN n) ∧ r1 = -1 ∧ rf2 = rf ∧ rg2 = rg ∧ rk2 = rk))) (h2 : (∃ q0 g0, q0 < n ∧ x = nI q0 ∧ (1 ≤ g0 ∧ g0 ≤ 60 ∧ y = nI g0) ∧ LWK kd tN n ∧ ∃ ka, RKN (fun z0 => ∃ t0, I t0 = true ∧ z0 = (100000 - dsN kd L pl tN q0 t0) * 60 + t0) g0 rk2m ka ∧ r2 = nI rk2m ∧ rk2m ≤ 60 ∧ ∀ i, i < rk2m → rf2m i = nI (ka i % 60) ∧ rg2m i = nI (dsN kd L pl tN q0 (ka i % 60))) ∨ ((∀ q0 g0, q0 < n → x = nI q0 → (1 ≤ g0 ∧ g0 ≤ 60 ∧ y = nI g0) → ¬ LWK kd tN n) ∧ r2 = -1 ∧ rf2m = rfm ∧ rg2m = rgm ∧ rk2m = rk)) : r1 = r2 ∧ rk2m = rk2 ∧ RR2 rk2 rf2 rg2 rf2m rg2m := by
  have hn := hK.1
  have h1 := h1.2
  rcases h1 with ⟨q0, g0, a1, a2, ⟨a3, a3b, a4⟩, a5, ka, a6, a7, a8, a9⟩ | ⟨a1, a2, a3, a4, a5⟩ <;> rcases h2 with ⟨u0, v0, b1, b2, ⟨b3, b3b, b4⟩, b5, kb, b6, b7, b8, b9⟩ | ⟨b1, b2, b3, b4, b5⟩
  · obtain rfl := same_nI (by omega) (by omega) a2 b2
    obtain rfl := same_nI (by omega) (by omega) a4 b4
    obtain ⟨e1, e2⟩ := rkn_uni a6 b6
    subst e1
    refine ⟨a7.trans b7.symm, rfl, _, _, ⟨a8, a9⟩, a8, fun i hi => ?_⟩
    have e9 := b9 i hi
    rw [← e2 i hi] at e9
    exact e9
  · exact absurd a5 (b1 _ _ a1 a2 ⟨a3, a3b, a4⟩)
  · exact absurd b5 (a1 _ _ b1 b2 ⟨b3, b3b, b4⟩)
  · refine ⟨a2.trans b2.symm, by rw [a5, b5], rt, ra, ?_, ?_⟩
    · rw [a3, a4, a5]; exact hR
    · rw [b3, b4, a5]; exact hRm

theorem ag_closest {n : Nat} {kd : Nat} {k : Nat} {rk : Nat} {L : Nat → Nat} {tN : Nat → Nat} {b : Nat → Nat} {I : Nat → Bool} {rt : Nat → Nat} {ra : Nat → Nat} {ln : Nat → Int32} {pl : Nat → Int32} {td : Nat → Int32} {br : Nat → Int32} {brk : Int32} {chk : Int32} {kn : Nat → Int32} {mf : Nat → Int32} {rf : Nat → Int32} {rg : Nat → Int32} {zi : Nat → Int32} {rfm : Nat → Int32} {rgm : Nat → Int32} {x : Int32} {r1 r2 : Int32} {br2 : Nat → Int32} {bk2 : Int32} {ck2 : Int32} {kn2 : Nat → Int32}  (hK : NBK n kd L ln pl tN td br brk chk kn) (hM : NBB n mf k b I) (hR : NBR rk rf rg rt ra) (hZ : ZI n zi I) (hRm : NBR rk rfm rgm rt ra) (h1 : NBK n kd L ln pl tN td br2 bk2 ck2 kn2 ∧ ((∃ w0, w0 ≤ 2 ∧ x = nI w0 ∧ 2 ≤ k ∧ LWK kd tN n ∧ ∃ u0 v0, CLO (dsN kd L pl tN) I u0 v0 ∧ r1 = nI (if w0 = 0 then u0 else if w0 = 1 then v0 else dsN kd L pl tN u0 v0)) ∨ (((∀ w0, w0 ≤ 2 → x ≠ nI w0) ∨ k < 2 ∨ ¬ LWK kd tN n) ∧ r1 = -1))) (h2 : (∃ w0, w0 ≤ 2 ∧ x = nI w0 ∧ 2 ≤ cI I n ∧ LWK kd tN n ∧ ∃ u0 v0, CLO (dsN kd L pl tN) I u0 v0 ∧ r2 = nI (if w0 = 0 then u0 else if w0 = 1 then v0 else dsN kd L pl tN u0 v0)) ∨ (((∀ w0, w0 ≤ 2 → x ≠ nI w0) ∨ cI I n < 2 ∨ ¬ LWK kd tN n) ∧ r2 = -1)) : r1 = r2 := by
  have h1 := h1.2
  rw [mb_cI hM] at h2
  have h60 : ∀ t, I t = true → t < 60 := fun t ht => Nat.lt_of_lt_of_le (hM.2.2 t ht) hK.1
  rcases h1 with ⟨w0, a1, a2, a3, a4, u0, v0, a5, a6⟩ | ⟨a1, a2⟩ <;> rcases h2 with ⟨y0, b1, b2, b3, b4, p0, q0, b5, b6⟩ | ⟨b1, b2⟩
  · obtain rfl := same_nI (by omega) (by omega) a2 b2
    obtain ⟨rfl, rfl⟩ := clo_uni h60 a5 b5
    exact a6.trans b6.symm
  · rcases b1 with q | q | q
    · exact absurd a2 (q _ a1)
    · omega
    · exact absurd a4 q
  · rcases a1 with q | q | q
    · exact absurd b2 (q _ b1)
    · omega
    · exact absurd b4 q
  · exact a2.trans b2.symm

theorem ag_centres {n : Nat} {kd : Nat} {k : Nat} {rk : Nat} {L : Nat → Nat} {tN : Nat → Nat} {b : Nat → Nat} {I : Nat → Bool} {rt : Nat → Nat} {ra : Nat → Nat} {ln : Nat → Int32} {pl : Nat → Int32} {td : Nat → Int32} {br : Nat → Int32} {brk : Int32} {chk : Int32} {kn : Nat → Int32} {mf : Nat → Int32} {rf : Nat → Int32} {rg : Nat → Int32} {zi : Nat → Int32} {rfm : Nat → Int32} {rgm : Nat → Int32} {x : Int32} {r1 r2 : Int32} {br2 : Nat → Int32} {bk2 : Int32} {ck2 : Int32} {kn2 : Nat → Int32} {rf2 : Nat → Int32} {rg2 : Nat → Int32} {rk2 : Nat} {rf2m : Nat → Int32} {rg2m : Nat → Int32} {rk2m : Nat} (hK : NBK n kd L ln pl tN td br brk chk kn) (hM : NBB n mf k b I) (hR : NBR rk rf rg rt ra) (hZ : ZI n zi I) (hRm : NBR rk rfm rgm rt ra) (h1 : NBK n kd L ln pl tN td br2 bk2 ck2 kn2 ∧ ((∃ k0, 1 ≤ k0 ∧ k0 ≤ 60 ∧ x = nI k0 ∧ k ≠ 0 ∧ LWK kd tN n ∧ ∃ t g ro, CE (dsN kd L pl tN) I t g (Nat.min k0 k) ∧ RAD (dsN kd L pl tN) I t (Nat.min k0 k) ro ∧ r1 = nI ro ∧ rk2 = Nat.min k0 k ∧ ∀ j, j < Nat.min k0 k → rf2 j = nI (t j) ∧ rg2 j = nI (g j)) ∨ (((∀ k0, 1 ≤ k0 → k0 ≤ 60 → x ≠ nI k0) ∨ k = 0 ∨ ¬ LWK kd tN n) ∧ r1 = -1 ∧ rf2 = rf ∧ rg2 = rg ∧ rk2 = rk))) (h2 : (∃ k0, 1 ≤ k0 ∧ k0 ≤ 60 ∧ x = nI k0 ∧ cI I n ≠ 0 ∧ LWK kd tN n ∧ ∃ t g ro, CE (dsN kd L pl tN) I t g (Nat.min k0 (cI I n)) ∧ RAD (dsN kd L pl tN) I t (Nat.min k0 (cI I n)) ro ∧ r2 = nI ro ∧ rk2m = Nat.min k0 (cI I n) ∧ ∀ j, j < Nat.min k0 (cI I n) → rf2m j = nI (t j) ∧ rg2m j = nI (g j)) ∨ (((∀ k0, 1 ≤ k0 → k0 ≤ 60 → x ≠ nI k0) ∨ cI I n = 0 ∨ ¬ LWK kd tN n) ∧ r2 = -1 ∧ rf2m = rfm ∧ rg2m = rgm ∧ rk2m = rk)) : r1 = r2 ∧ rk2m = rk2 ∧ RR2 rk2 rf2 rg2 rf2m rg2m := by
  have h1 := h1.2
  rw [mb_cI hM] at h2
  have hk := hM.1.1
  rcases h1 with ⟨k0, a1, a2, a3, a4, a5, t, g, ro, a6, a7, a8, a9, a10⟩ | ⟨a1, a2, a3, a4, a5⟩ <;> rcases h2 with ⟨j0, b1, b2, b3, b4, b5, t', g', ro', b6, b7, b8, b9, b10⟩ | ⟨b1, b2, b3, b4, b5⟩
  · obtain rfl := same_nI (by omega) (by omega) a3 b3
    have e := ce_uni a6 b6
    obtain rfl := rad_same (fun i hi => (e i hi).1) a7 b7
    have hmn := nmin_cases k0 k
    refine ⟨a8.trans b8.symm, b9.trans a9.symm, t, g, ?_, ?_⟩
    · rw [a9]; exact ⟨by omega, a10⟩
    · rw [a9]
      exact ⟨by omega, fun i hi => by rw [(e i hi).1, (e i hi).2]; exact b10 i hi⟩
  · rcases b1 with q | q | q
    · exact absurd a3 (q _ a1 a2)
    · exact absurd q a4
    · exact absurd a5 q
  · rcases a1 with q | q | q
    · exact absurd b3 (q _ b1 b2)
    · exact absurd q b4
    · exact absurd b5 q
  · refine ⟨a2.trans b2.symm, by rw [a5, b5], rt, ra, ?_, ?_⟩
    · rw [a3, a4, a5]; exact hR
    · rw [b3, b4, a5]; exact hRm

theorem ag_best {n : Nat} {kd : Nat} {k : Nat} {rk : Nat} {L : Nat → Nat} {tN : Nat → Nat} {b : Nat → Nat} {I : Nat → Bool} {rt : Nat → Nat} {ra : Nat → Nat} {ln : Nat → Int32} {pl : Nat → Int32} {td : Nat → Int32} {br : Nat → Int32} {brk : Int32} {chk : Int32} {kn : Nat → Int32} {mf : Nat → Int32} {rf : Nat → Int32} {rg : Nat → Int32} {zi : Nat → Int32} {rfm : Nat → Int32} {rgm : Nat → Int32} {x : Int32} {r1 r2 : Int32} {br2 : Nat → Int32} {bk2 : Int32} {ck2 : Int32} {kn2 : Nat → Int32} {rf2 : Nat → Int32} {rg2 : Nat → Int32} {rk2 : Nat} {rf2m : Nat → Int32} {rg2m : Nat → Int32} {rk2m : Nat} (hK : NBK n kd L ln pl tN td br brk chk kn) (hM : NBB n mf k b I) (hR : NBR rk rf rg rt ra) (hZ : ZI n zi I) (hRm : NBR rk rfm rgm rt ra) (h1 : NBK n kd L ln pl tN td br2 bk2 ck2 kn2 ∧ ((∃ k0, 1 ≤ k0 ∧ k0 ≤ 3 ∧ x = nI k0 ∧ k0 ≤ k ∧ LWK kd tN n ∧ ∃ t ro, BSP (dsN kd L pl tN) I (k0 - 1) t ro ∧ r1 = nI ro ∧ rk2 = k0 ∧ ∀ j, j < k0 → rf2 j = nI (t j) ∧ rg2 j = nI 0) ∨ ((∀ k0, 1 ≤ k0 → k0 ≤ 3 → x = nI k0 → k0 ≤ k → ¬ LWK kd tN n) ∧ r1 = -1 ∧ rf2 = rf ∧ rg2 = rg ∧ rk2 = rk))) (h2 : (∃ k0, 1 ≤ k0 ∧ k0 ≤ 3 ∧ x = nI k0 ∧ k0 ≤ cI I n ∧ LWK kd tN n ∧ ∃ t ro, BSP (dsN kd L pl tN) I (k0 - 1) t ro ∧ r2 = nI ro ∧ rk2m = k0 ∧ ∀ j, j < k0 → rf2m j = nI (t j) ∧ rg2m j = nI 0) ∨ ((∀ k0, 1 ≤ k0 → k0 ≤ 3 → x = nI k0 → k0 ≤ cI I n → ¬ LWK kd tN n) ∧ r2 = -1 ∧ rf2m = rfm ∧ rg2m = rgm ∧ rk2m = rk)) : r1 = r2 ∧ rk2m = rk2 ∧ RR2 rk2 rf2 rg2 rf2m rg2m := by
  have h1 := h1.2
  rw [mb_cI hM] at h2
  rcases h1 with ⟨k0, a1, a2, a3, a4, a5, t, ro, a6, a7, a8, a9⟩ | ⟨a1, a2, a3, a4, a5⟩ <;> rcases h2 with ⟨j0, b1, b2, b3, b4, b5, t', ro', b6, b7, b8, b9⟩ | ⟨b1, b2, b3, b4, b5⟩
  · obtain rfl := same_nI (by omega) (by omega) a3 b3
    obtain ⟨rfl, e⟩ := bsp_uni (by omega) a6 b6
    refine ⟨a7.trans b7.symm, b8.trans a8.symm, t, fun _ => 0, ?_, ?_⟩
    · rw [a8]; exact ⟨by omega, a9⟩
    · rw [a8]
      exact ⟨by omega, fun i hi => by rw [e i (by omega)]; exact b9 i hi⟩
  · exact absurd a5 (b1 _ a1 a2 a3 a4)
  · exact absurd b5 (a1 _ b1 b2 b3 b4)
  · refine ⟨a2.trans b2.symm, by rw [a5, b5], rt, ra, ?_, ?_⟩
    · rw [a3, a4, a5]; exact hR
    · rw [b3, b4, a5]; exact hRm

theorem ag_chain {n : Nat} {kd : Nat} {k : Nat} {rk : Nat} {L : Nat → Nat} {tN : Nat → Nat} {b : Nat → Nat} {I : Nat → Bool} {rt : Nat → Nat} {ra : Nat → Nat} {ln : Nat → Int32} {pl : Nat → Int32} {td : Nat → Int32} {br : Nat → Int32} {brk : Int32} {chk : Int32} {kn : Nat → Int32} {mf : Nat → Int32} {rf : Nat → Int32} {rg : Nat → Int32} {zi : Nat → Int32} {rfm : Nat → Int32} {rgm : Nat → Int32} {x : Int32} {r1 r2 : Int64} {br2 : Nat → Int32} {bk2 : Int32} {ck2 : Int32} {kn2 : Nat → Int32}  (hK : NBK n kd L ln pl tN td br brk chk kn) (hM : NBB n mf k b I) (hR : NBR rk rf rg rt ra) (hZ : ZI n zi I) (hRm : NBR rk rfm rgm rt ra) (h1 : NBK n kd L ln pl tN td br2 bk2 ck2 kn2 ∧ ((∃ w0, w0 ≤ 1 ∧ x = nI w0 ∧ LWK kd tN n ∧ ∃ to, CHN (dsN kd L pl tN) I (k - 1) to ∧ r1 = if w0 = 0 then lN (k - 1) else lN (sumK to (k - 1))) ∨ (((∀ w0, w0 ≤ 1 → x ≠ nI w0) ∨ ¬ LWK kd tN n) ∧ r1 = -1))) (h2 : (∃ w0, w0 ≤ 1 ∧ x = nI w0 ∧ LWK kd tN n ∧ ∃ to, CHK (dsN kd L pl tN) I (cI I n - 1) to ∧ r2 = if w0 = 0 then lN (cI I n - 1) else lN (sumK to (cI I n - 1))) ∨ (((∀ w0, w0 ≤ 1 → x ≠ nI w0) ∨ ¬ LWK kd tN n) ∧ r2 = -1)) : r1 = r2 := by
  have h1 := h1.2
  rw [mb_cI hM] at h2
  rcases h1 with ⟨w0, a1, a2, a3, to, a4, a5⟩ | ⟨a1, a2⟩ <;> rcases h2 with ⟨y0, b1, b2, b3, to', b4, b5⟩ | ⟨b1, b2⟩
  · obtain rfl := same_nI (by omega) (by omega) a2 b2
    rw [a5, b5, sumK_congr (k - 1) (ch_uni a4 b4)]
  · rcases b1 with q | q
    · exact absurd a2 (q _ a1)
    · exact absurd a3 q
  · rcases a1 with q | q
    · exact absurd b2 (q _ b1)
    · exact absurd b3 q
  · exact a2.trans b2.symm

theorem ag_pair {n : Nat} {kd : Nat} {k : Nat} {rk : Nat} {L : Nat → Nat} {tN : Nat → Nat} {b : Nat → Nat} {I : Nat → Bool} {rt : Nat → Nat} {ra : Nat → Nat} {ln : Nat → Int32} {pl : Nat → Int32} {td : Nat → Int32} {br : Nat → Int32} {brk : Int32} {chk : Int32} {kn : Nat → Int32} {mf : Nat → Int32} {rf : Nat → Int32} {rg : Nat → Int32} {zi : Nat → Int32} {rfm : Nat → Int32} {rgm : Nat → Int32} {x : Int32} {y : Int32} {r1 r2 : Int32} {br2 : Nat → Int32} {bk2 : Int32} {ck2 : Int32} {kn2 : Nat → Int32}  (hK : NBK n kd L ln pl tN td br brk chk kn) (hM : NBB n mf k b I) (hR : NBR rk rf rg rt ra) (hZ : ZI n zi I) (hRm : NBR rk rfm rgm rt ra) (h1 : NBK n kd L ln pl tN td br2 bk2 ck2 kn2 ∧ ((∃ w0, w0 ≤ 2 ∧ y = nI w0 ∧ LWK kd tN n ∧ ∃ to, CHN (dsN kd L pl tN) I (k - 1) to ∧ ((∃ i0, i0 < k - 1 ∧ x = nI i0 ∧ r1 = nI (pop (to i0) w0)) ∨ ((∀ i0, i0 < k - 1 → x ≠ nI i0) ∧ r1 = -1))) ∨ (((∀ w0, w0 ≤ 2 → y ≠ nI w0) ∨ ¬ LWK kd tN n) ∧ r1 = -1))) (h2 : (∃ w0, w0 ≤ 2 ∧ y = nI w0 ∧ LWK kd tN n ∧ ∃ to, CHK (dsN kd L pl tN) I (cI I n - 1) to ∧ ((∃ i0, i0 < cI I n - 1 ∧ x = nI i0 ∧ r2 = nI (pop (to i0) w0)) ∨ ((∀ i0, i0 < cI I n - 1 → x ≠ nI i0) ∧ r2 = -1))) ∨ (((∀ w0, w0 ≤ 2 → y ≠ nI w0) ∨ ¬ LWK kd tN n) ∧ r2 = -1)) : r1 = r2 := by
  have h1 := h1.2
  have hk := hM.1.1
  rw [mb_cI hM] at h2
  rcases h1 with ⟨w0, a1, a2, a3, to, a4, a5⟩ | ⟨a1, a2⟩ <;> rcases h2 with ⟨y0, b1, b2, b3, to', b4, b5⟩ | ⟨b1, b2⟩
  · obtain rfl := same_nI (by omega) (by omega) a2 b2
    have e := ch_uni a4 b4
    rcases a5 with ⟨i0, c1, c2, c3⟩ | ⟨c1, c2⟩ <;> rcases b5 with ⟨j0, d1, d2, d3⟩ | ⟨d1, d2⟩
    · obtain rfl := same_nI (by omega) (by omega) c2 d2
      rw [c3, d3, e i0 c1]
    · exact absurd c2 (d1 _ c1)
    · exact absurd d2 (c1 _ d1)
    · exact c2.trans d2.symm
  · rcases b1 with q | q
    · exact absurd a2 (q _ a1)
    · exact absurd a3 q
  · rcases a1 with q | q
    · exact absurd b2 (q _ b1)
    · exact absurd b3 q
  · exact a2.trans b2.symm

theorem ag_clusters {n : Nat} {kd : Nat} {k : Nat} {rk : Nat} {L : Nat → Nat} {tN : Nat → Nat} {b : Nat → Nat} {I : Nat → Bool} {rt : Nat → Nat} {ra : Nat → Nat} {ln : Nat → Int32} {pl : Nat → Int32} {td : Nat → Int32} {br : Nat → Int32} {brk : Int32} {chk : Int32} {kn : Nat → Int32} {mf : Nat → Int32} {rf : Nat → Int32} {rg : Nat → Int32} {zi : Nat → Int32} {rfm : Nat → Int32} {rgm : Nat → Int32} {x : Int32} {r1 r2 : Int32} {br2 : Nat → Int32} {bk2 : Int32} {ck2 : Int32} {kn2 : Nat → Int32}  (hK : NBK n kd L ln pl tN td br brk chk kn) (hM : NBB n mf k b I) (hR : NBR rk rf rg rt ra) (hZ : ZI n zi I) (hRm : NBR rk rfm rgm rt ra) (h1 : NBK n kd L ln pl tN td br2 bk2 ck2 kn2 ∧ ((∃ r0, r0 < 2 ^ 31 ∧ x = nI r0 ∧ LWK kd tN n ∧ ∃ lab, LAB (dsN kd L pl tN) r0 I lab ∧ r1 = nI (sumB (fun t => if lab t = t then 1 else 0) b k)) ∨ ((∀ r0, r0 < 2 ^ 31 → x = nI r0 → ¬ LWK kd tN n) ∧ r1 = -1))) (h2 : (∃ r0, r0 < 2 ^ 31 ∧ x = nI r0 ∧ LWK kd tN n ∧ ∃ lab, LAB (dsN kd L pl tN) r0 I lab ∧ r2 = nI (sumI (fun t => if lab t = t then 1 else 0) I n)) ∨ ((∀ r0, r0 < 2 ^ 31 → x = nI r0 → ¬ LWK kd tN n) ∧ r2 = -1)) : r1 = r2 := by
  have h1 := h1.2
  rcases h1 with ⟨w0, a1, a2, a3, lab, a4, a5⟩ | ⟨a1, a2⟩ <;> rcases h2 with ⟨y0, b1, b2, b3, lab', b4, b5⟩ | ⟨b1, b2⟩
  · obtain rfl := same_nI a1 b1 a2 b2
    rw [a5, b5, mb_sum hM, sumB_congr (h := fun t => if lab' t = t then 1 else 0) k (fun i hi => by
      show (if lab (b i) = b i then 1 else 0) = (if lab' (b i) = b i then 1 else 0)
      rw [lab_uni a4 b4 (hM.2.1.at hi)])]
  · exact absurd a3 (b1 _ a1 a2)
  · exact absurd b3 (a1 _ b1 b2)
  · exact a2.trans b2.symm

theorem ag_cluster {n : Nat} {kd : Nat} {k : Nat} {rk : Nat} {L : Nat → Nat} {tN : Nat → Nat} {b : Nat → Nat} {I : Nat → Bool} {rt : Nat → Nat} {ra : Nat → Nat} {ln : Nat → Int32} {pl : Nat → Int32} {td : Nat → Int32} {br : Nat → Int32} {brk : Int32} {chk : Int32} {kn : Nat → Int32} {mf : Nat → Int32} {rf : Nat → Int32} {rg : Nat → Int32} {zi : Nat → Int32} {rfm : Nat → Int32} {rgm : Nat → Int32} {x : Int32} {y : Int32} {r1 r2 : Int32} {br2 : Nat → Int32} {bk2 : Int32} {ck2 : Int32} {kn2 : Nat → Int32}  (hK : NBK n kd L ln pl tN td br brk chk kn) (hM : NBB n mf k b I) (hR : NBR rk rf rg rt ra) (hZ : ZI n zi I) (hRm : NBR rk rfm rgm rt ra) (h1 : NBK n kd L ln pl tN td br2 bk2 ck2 kn2 ∧ ((∃ t0 r0, t0 < n ∧ x = nI t0 ∧ I t0 = true ∧ r0 < 2 ^ 31 ∧ y = nI r0 ∧ LWK kd tN n ∧ ∃ lab, LAB (dsN kd L pl tN) r0 I lab ∧ r1 = nI (lab t0)) ∨ ((∀ t0 r0, t0 < n → x = nI t0 → I t0 = true → r0 < 2 ^ 31 → y = nI r0 → ¬ LWK kd tN n) ∧ r1 = -1))) (h2 : (∃ t0 r0, t0 < n ∧ x = nI t0 ∧ I t0 = true ∧ r0 < 2 ^ 31 ∧ y = nI r0 ∧ LWK kd tN n ∧ ∃ lab, LAB (dsN kd L pl tN) r0 I lab ∧ r2 = nI (lab t0)) ∨ ((∀ t0 r0, t0 < n → x = nI t0 → I t0 = true → r0 < 2 ^ 31 → y = nI r0 → ¬ LWK kd tN n) ∧ r2 = -1)) : r1 = r2 := by
  have h1 := h1.2
  have hn := hK.1
  rcases h1 with ⟨t0, w0, a1, a2, a3, a4, a5, a6, lab, a7, a8⟩ | ⟨a1, a2⟩ <;> rcases h2 with ⟨u0, y0, b1, b2, b3, b4, b5, b6, lab', b7, b8⟩ | ⟨b1, b2⟩
  · obtain rfl := same_nI (by omega) (by omega) a2 b2
    obtain rfl := same_nI a4 b4 a5 b5
    rw [a8, b8, lab_uni a7 b7 a3]
  · exact absurd a6 (b1 _ _ a1 a2 a3 a4 a5)
  · exact absurd b6 (a1 _ _ b1 b2 b3 b4 b5)
  · exact a2.trans b2.symm

theorem ag_net {n : Nat} {kd : Nat} {k : Nat} {rk : Nat} {L : Nat → Nat} {tN : Nat → Nat} {b : Nat → Nat} {I : Nat → Bool} {rt : Nat → Nat} {ra : Nat → Nat} {ln : Nat → Int32} {pl : Nat → Int32} {td : Nat → Int32} {br : Nat → Int32} {brk : Int32} {chk : Int32} {kn : Nat → Int32} {mf : Nat → Int32} {rf : Nat → Int32} {rg : Nat → Int32} {zi : Nat → Int32} {rfm : Nat → Int32} {rgm : Nat → Int32} {x : Int32} {r1 r2 : Int32} {br2 : Nat → Int32} {bk2 : Int32} {ck2 : Int32} {kn2 : Nat → Int32} {rf2 : Nat → Int32} {rg2 : Nat → Int32} {rk2 : Nat} {rf2m : Nat → Int32} {rg2m : Nat → Int32} {rk2m : Nat} (hK : NBK n kd L ln pl tN td br brk chk kn) (hM : NBB n mf k b I) (hR : NBR rk rf rg rt ra) (hZ : ZI n zi I) (hRm : NBR rk rfm rgm rt ra) (h1 : NBK n kd L ln pl tN td br2 bk2 ck2 kn2 ∧ ((∃ r0, r0 < 2 ^ 31 ∧ x = nI r0 ∧ LWK kd tN n ∧ ∃ t, NET (dsN kd L pl tN) I r0 rk2 t ∧ r1 = nI rk2 ∧ rk2 ≤ 60 ∧ ∀ j, j < rk2 → rf2 j = nI (t j) ∧ rg2 j = nI 0) ∨ ((∀ r0, r0 < 2 ^ 31 → x = nI r0 → ¬ LWK kd tN n) ∧ r1 = -1 ∧ rf2 = rf ∧ rg2 = rg ∧ rk2 = rk))) (h2 : (∃ r0, r0 < 2 ^ 31 ∧ x = nI r0 ∧ LWK kd tN n ∧ ∃ t, NET (dsN kd L pl tN) I r0 rk2m t ∧ r2 = nI rk2m ∧ rk2m ≤ 60 ∧ ∀ j, j < rk2m → rf2m j = nI (t j) ∧ rg2m j = nI 0) ∨ ((∀ r0, r0 < 2 ^ 31 → x = nI r0 → ¬ LWK kd tN n) ∧ r2 = -1 ∧ rf2m = rfm ∧ rg2m = rgm ∧ rk2m = rk)) : r1 = r2 ∧ rk2m = rk2 ∧ RR2 rk2 rf2 rg2 rf2m rg2m := by
  have h1 := h1.2
  rcases h1 with ⟨w0, a1, a2, a3, t, a4, a5, a6, a7⟩ | ⟨a1, a2, a3, a4, a5⟩ <;> rcases h2 with ⟨y0, b1, b2, b3, t', b4, b5, b6, b7⟩ | ⟨b1, b2, b3, b4, b5⟩
  · obtain rfl := same_nI a1 b1 a2 b2
    obtain ⟨e1, e2⟩ := net_uni a4 b4
    subst e1
    refine ⟨a5.trans b5.symm, rfl, t, fun _ => 0, ⟨a6, a7⟩, a6, fun i hi => ?_⟩
    rw [e2 i hi]
    exact b7 i hi
  · exact absurd a3 (b1 _ a1 a2)
  · exact absurd b3 (a1 _ b1 b2)
  · refine ⟨a2.trans b2.symm, by rw [a5, b5], rt, ra, ?_, ?_⟩
    · rw [a3, a4, a5]; exact hR
    · rw [b3, b4, a5]; exact hRm

theorem ag_middle {n : Nat} {kd : Nat} {k : Nat} {rk : Nat} {L : Nat → Nat} {tN : Nat → Nat} {b : Nat → Nat} {I : Nat → Bool} {rt : Nat → Nat} {ra : Nat → Nat} {ln : Nat → Int32} {pl : Nat → Int32} {td : Nat → Int32} {br : Nat → Int32} {brk : Int32} {chk : Int32} {kn : Nat → Int32} {mf : Nat → Int32} {rf : Nat → Int32} {rg : Nat → Int32} {zi : Nat → Int32} {rfm : Nat → Int32} {rgm : Nat → Int32} {x : Int32} {r1 r2 : Int64} {br2 : Nat → Int32} {bk2 : Int32} {ck2 : Int32} {kn2 : Nat → Int32}  (hK : NBK n kd L ln pl tN td br brk chk kn) (hM : NBB n mf k b I) (hR : NBR rk rf rg rt ra) (hZ : ZI n zi I) (hRm : NBR rk rfm rgm rt ra) (h1 : NBK n kd L ln pl tN td br2 bk2 ck2 kn2 ∧ ((∃ w0, w0 ≤ 1 ∧ x = nI w0 ∧ k ≠ 0 ∧ LWK kd tN n ∧ ∃ m0, MID (fun t => sumB (fun q => dsN kd L pl tN t q) b k) I m0 ∧ r1 = if w0 = 0 then lN m0 else lN (sumB (fun q => dsN kd L pl tN m0 q) b k)) ∨ (((∀ w0, w0 ≤ 1 → x ≠ nI w0) ∨ k = 0 ∨ ¬ LWK kd tN n) ∧ r1 = -1))) (h2 : (∃ w0, w0 ≤ 1 ∧ x = nI w0 ∧ cI I n ≠ 0 ∧ LWK kd tN n ∧ ∃ m0, MID (fun t => sumI (fun q => dsN kd L pl tN t q) I n) I m0 ∧ r2 = if w0 = 0 then lN m0 else lN (sumI (fun q => dsN kd L pl tN m0 q) I n)) ∨ (((∀ w0, w0 ≤ 1 → x ≠ nI w0) ∨ cI I n = 0 ∨ ¬ LWK kd tN n) ∧ r2 = -1)) : r1 = r2 := by
  have h1 := h1.2
  rw [mb_cI hM] at h2
  simp only [mb_sum hM] at h2
  rcases h1 with ⟨w0, a1, a2, a3, a4, m0, a5, a6⟩ | ⟨a1, a2⟩ <;> rcases h2 with ⟨y0, b1, b2, b3, b4, m1, b5, b6⟩ | ⟨b1, b2⟩
  · obtain rfl := same_nI (by omega) (by omega) a2 b2
    obtain rfl := mid_uni a5 b5
    exact a6.trans b6.symm
  · rcases b1 with q | q | q
    · exact absurd a2 (q _ a1)
    · exact absurd q a3
    · exact absurd a4 q
  · rcases a1 with q | q | q
    · exact absurd b2 (q _ b1)
    · exact absurd q b3
    · exact absurd b4 q
  · exact a2.trans b2.symm

theorem ag_count {n : Nat} {kd : Nat} {k : Nat} {rk : Nat} {L : Nat → Nat} {tN : Nat → Nat} {b : Nat → Nat} {I : Nat → Bool} {rt : Nat → Nat} {ra : Nat → Nat} {ln : Nat → Int32} {pl : Nat → Int32} {td : Nat → Int32} {br : Nat → Int32} {brk : Int32} {chk : Int32} {kn : Nat → Int32} {mf : Nat → Int32} {rf : Nat → Int32} {rg : Nat → Int32} {zi : Nat → Int32} {rfm : Nat → Int32} {rgm : Nat → Int32} {x : Int32} {r1 r2 : Int32} {br2 : Nat → Int32} {bk2 : Int32} {ck2 : Int32} {kn2 : Nat → Int32}  (hK : NBK n kd L ln pl tN td br brk chk kn) (hM : NBB n mf k b I) (hR : NBR rk rf rg rt ra) (hZ : ZI n zi I) (hRm : NBR rk rfm rgm rt ra) (h1 : NBK n kd L ln pl tN td br2 bk2 ck2 kn2 ∧ ((x = 0 ∧ r1 = nI n) ∨ (x = 1 ∧ r1 = nI k) ∨ (x = 2 ∧ r1 = nI kd) ∨ (x = 3 ∧ r1 = nI rk) ∨ (x = 4 ∧ ((LWK kd tN n ∧ ∃ g0, GRT (dsN kd L pl tN) I g0 ∧ r1 = nI g0) ∨ (¬ LWK kd tN n ∧ r1 = -1))) ∨ ((x ≠ 0 ∧ x ≠ 1 ∧ x ≠ 2 ∧ x ≠ 3 ∧ x ≠ 4) ∧ ((∃ t0, t0 < n ∧ x = nI (t0 + 10) ∧ r1 = nI (L t0)) ∨ ((∀ t0, t0 < n → x ≠ nI (t0 + 10)) ∧ r1 = -1))))) (h2 : (x = 0 ∧ r2 = nI n) ∨ (x = 1 ∧ r2 = nI (cI I n)) ∨ (x = 2 ∧ r2 = nI kd) ∨ (x = 3 ∧ r2 = nI rk) ∨ (x = 4 ∧ ((LWK kd tN n ∧ ∃ g0, GRT (dsN kd L pl tN) I g0 ∧ r2 = nI g0) ∨ (¬ LWK kd tN n ∧ r2 = -1))) ∨ ((x ≠ 0 ∧ x ≠ 1 ∧ x ≠ 2 ∧ x ≠ 3 ∧ x ≠ 4) ∧ ((∃ t0, t0 < n ∧ x = nI (t0 + 10) ∧ r2 = nI (L t0)) ∨ ((∀ t0, t0 < n → x ≠ nI (t0 + 10)) ∧ r2 = -1)))) : r1 = r2 := by
  have hn := hK.1
  have h1 := six h1.2
  rw [mb_cI hM] at h2
  have h2 := six h2
  obtain ⟨a0, a1, a2, a3, a4, a5⟩ := h1
  obtain ⟨b0, b1, b2, b3, b4, b5⟩ := h2
  by_cases c0 : x = 0
  · exact (a0 c0).trans (b0 c0).symm
  by_cases c1 : x = 1
  · exact (a1 c1).trans (b1 c1).symm
  by_cases c2 : x = 2
  · exact (a2 c2).trans (b2 c2).symm
  by_cases c3 : x = 3
  · exact (a3 c3).trans (b3 c3).symm
  by_cases c4 : x = 4
  · rcases a4 c4 with ⟨p1, g0, p2, p3⟩ | ⟨p1, p2⟩ <;> rcases b4 c4 with ⟨q1, g1, q2, q3⟩ | ⟨q1, q2⟩
    · rw [p3, q3, grt_uni p2 q2]
    · exact absurd p1 q1
    · exact absurd q1 p1
    · exact p2.trans q2.symm
  have cc := (⟨c0, c1, c2, c3, c4⟩ : x ≠ 0 ∧ x ≠ 1 ∧ x ≠ 2 ∧ x ≠ 3 ∧ x ≠ 4)
  rcases a5 cc with ⟨t0, p1, p2, p3⟩ | ⟨p1, p2⟩ <;> rcases b5 cc with ⟨u0, q1, q2, q3⟩ | ⟨q1, q2⟩
  · have := same_nI (by omega) (by omega) p2 q2
    obtain rfl : t0 = u0 := by omega
    exact p3.trans q3.symm
  · exact absurd p2 (q1 _ p1)
  · exact absurd q2 (p1 _ q1)
  · exact p2.trans q2.symm
