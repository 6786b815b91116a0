def CQP (dd : Nat → Nat → Nat) (Q : Nat → Nat → Prop) (a b : Nat) (w v : Int32) : Prop := (w = -1 ∧ ∀ p q, DNE a b p q → ¬ Q p q) ∨ ∃ p q, w = nI p ∧ v = nI q ∧ Q p q ∧ DNE a b p q ∧ ∀ x y, DNE a b x y → Q x y → pkN dd p q ≤ pkN dd x y
section CQS
variable {dd : Nat → Nat → Nat} {Q : Nat → Nat → Prop} {a b c d p q : Nat} {w v : Int32}
theorem cq_conv (h : CQP dd Q a b w v) (e : ∀ p q, Q p q → (DNE a b p q ↔ DNE c d p q)) : CQP dd Q c d w v := by
  rcases h with ⟨h1, h2⟩ | ⟨p, q, h1, h2, h3, h4, h5⟩
  · exact Or.inl ⟨h1, fun p q z hq => h2 p q ((e p q hq).mpr z) hq⟩
  · exact Or.inr ⟨p, q, h1, h2, h3, (e p q h3).mp h4, fun x y z hq => h5 x y ((e x y hq).mpr z) hq⟩
theorem dne_s {a b p q : Nat} : DNE a (b + 1) p q ↔ (DNE a b p q ∨ (p = a ∧ q = b)) := by unfold DNE; omega
theorem cq_skip (h : CQP dd Q a b w v) (hn : ¬ Q a b) : CQP dd Q a (b + 1) w v := cq_conv h (fun p q hq => by
  rw [dne_s]
  exact ⟨Or.inl, fun z => z.elim id (fun e => by
    obtain ⟨rfl, rfl⟩ := e
    exact absurd hq hn)⟩)
theorem cq_new (h : CQP dd Q a b w v) (hw : w = -1) (h60 : ∀ p q, Q p q → p < q ∧ q < 60) (hq : Q a b) : CQP dd Q a (b + 1) (nI a) (nI b) := by
  rcases h with ⟨-, h2⟩ | ⟨p, q, h1, -, h3, -⟩
  · refine Or.inr ⟨a, b, rfl, rfl, hq, dne_s.mpr (Or.inr ⟨rfl, rfl⟩), fun x y z hz => ?_⟩
    rcases dne_s.mp z with z | ⟨rfl, rfl⟩
    · exact absurd hz (h2 x y z)
    · exact Nat.le_refl _
  · rw [h1] at hw
    exact absurd hw (nI_m1 (by have := h60 p q h3; omega))
theorem cq_keep (h60 : ∀ p q, Q p q → p < q ∧ q < 60) (h3 : Q p q) (h4 : DNE a b p q) (h5 : ∀ x y, DNE a b x y → Q x y → pkN dd p q ≤ pkN dd x y) (hd : dd p q ≤ dd a b) : CQP dd Q a (b + 1) (nI p) (nI q) := by
  refine Or.inr ⟨p, q, rfl, rfl, h3, dne_s.mpr (Or.inl h4), fun x y z hz => ?_⟩
  rcases dne_s.mp z with z | ⟨rfl, rfl⟩
  · exact h5 x y z hz
  · exact pk_lt' (h60 _ _ h3).1 (h60 _ _ hz).1 (h60 _ _ h3).2 (h60 _ _ hz).2 (Or.inr ⟨hd, by unfold DNE at h4; omega⟩)
theorem cq_take (h60 : ∀ p q, Q p q → p < q ∧ q < 60) (hq : Q a b) (h3 : Q p q) (h5 : ∀ x y, DNE a b x y → Q x y → pkN dd p q ≤ pkN dd x y) (hd : dd a b < dd p q) : CQP dd Q a (b + 1) (nI a) (nI b) := by
  refine Or.inr ⟨a, b, rfl, rfl, hq, dne_s.mpr (Or.inr ⟨rfl, rfl⟩), fun x y z hz => ?_⟩
  rcases dne_s.mp z with z | ⟨rfl, rfl⟩
  · exact Nat.le_trans (pk_lt' (h60 _ _ hq).1 (h60 _ _ h3).1 (h60 _ _ hq).2 (h60 _ _ h3).2 (Or.inl hd)) (h5 x y z hz)
  · exact Nat.le_refl _
end CQS
def XQ (I : Nat → Bool) (lab : Nat → Nat) (p q : Nat) : Prop := p < q ∧ I p = true ∧ I q = true ∧ lab p ≠ lab q
def rp (lab : Nat → Nat) (t : Nat) : Nat := if lab t = t then 1 else 0
theorem sumI_cI (I : Nat → Bool) : ∀ i, sumI (rp (fun t => t)) I i = cI I i := by
  intro i
  induction i with
  | zero => rfl
  | succ i ih =>
    show sumI _ I i + _ = cI I i + _
    rw [ih]
    unfold rp
    rw [if_pos rfl]
theorem sumI_zero {g : Nat → Nat} {I : Nat → Bool} : ∀ i, (∀ t, t < i → I t = true → g t = 0) → sumI g I i = 0 := by
  intro i
  induction i with
  | zero => intro _; rfl
  | succ i ih =>
    intro h
    show sumI g I i + _ = 0
    rw [ih (fun t ht => h t (by omega))]
    by_cases c : I i = true
    · rw [if_pos c, h i (by omega) c]
    · rw [if_neg c]
theorem sumI_drop {g h : Nat → Nat} {I : Nat → Bool} {M : Nat} (hM : I M = true) (h1 : g M = 1) (h2 : h M = 0) (h3 : ∀ t, t ≠ M → I t = true → h t = g t) : ∀ i, sumI g I i = sumI h I i + (if M < i then 1 else 0) := by
  intro i
  induction i with
  | zero => rfl
  | succ i ih =>
    show sumI g I i + _ = sumI h I i + _ + _
    rw [ih]
    by_cases c : i = M
    · subst c
      rw [if_pos hM, if_pos hM, h1, h2, if_neg (Nat.lt_irrefl i), if_pos (Nat.lt_succ_self i)]
    · have e2 : (M < i + 1) = (M < i) := propext (by omega)
      simp only [e2]
      by_cases q : I i = true
      · rw [if_pos q, if_pos q, h3 i c q]; omega
      · rw [if_neg q, if_neg q]; omega
theorem sumI_ge {g : Nat → Nat} {I : Nat → Bool} {p : Nat} (hp : I p = true) (h : g p = 1) : ∀ i, p < i → 1 ≤ sumI g I i := by
  intro i
  induction i with
  | zero => intro h; exact absurd h (Nat.not_lt_zero p)
  | succ i ih =>
    intro hi
    show 1 ≤ sumI g I i + _
    by_cases c : p = i
    · subst c; rw [if_pos hp, h]; omega
    · have := ih (by omega); omega
theorem sumI_ge2 {g : Nat → Nat} {I : Nat → Bool} {p q : Nat} (hpq : p < q) (hp : I p = true) (h : g p = 1) (hq : I q = true) (h2 : g q = 1) : ∀ i, q < i → 2 ≤ sumI g I i := by
  intro i
  induction i with
  | zero => intro h; exact absurd h (Nat.not_lt_zero q)
  | succ i ih =>
    intro hi
    show 2 ≤ sumI g I i + _
    by_cases c : q = i
    · subst c
      have := sumI_ge hp h q hpq
      rw [if_pos hq, h2]; omega
    · have := ih (by omega); omega
theorem sumI_one {lab : Nat → Nat} {I : Nat → Bool} (h : ∀ s t, s < t → I s = true → I t = true → lab s = lab t) : ∀ i, sumI (rp lab) I i ≤ 1 := by
  intro i
  induction i with
  | zero => exact Nat.zero_le _
  | succ i ih =>
    show sumI (rp lab) I i + _ ≤ 1
    by_cases c : I i = true
    · rw [if_pos c]
      unfold rp at ih ⊢
      by_cases q : lab i = i
      · rw [if_pos q]
        have : sumI (fun t => if lab t = t then 1 else 0) I i = 0 := sumI_zero i (fun t ht hI => by
          have e := h t i ht hI c
          exact if_neg (by omega))
        omega
      · rw [if_neg q]; omega
    · rw [if_neg c]; omega
theorem CK.rf {dd : Nat → Nat → Nat} {I : Nat → Bool} {x a : Nat} : CK dd I x a a := fun _ h _ => h
theorem CK.mono {dd : Nat → Nat → Nat} {I : Nat → Bool} {x y a b : Nat} (h : CK dd I x a b) (hxy : x ≤ y) : CK dd I y a b := fun P p0 hs => h P p0 (fun u v hu hv hn hp hl => hs u v hu hv hn hp (Nat.lt_of_lt_of_le hl hxy))
theorem CK.tr {dd : Nat → Nat → Nat} {I : Nat → Bool} {x a b c : Nat} (h : CK dd I x a b) (h2 : CK dd I x b c) : CK dd I x a c := fun P p0 hs => h2 P (h P p0 hs) hs
theorem CK.one {dd : Nat → Nat → Nat} {I : Nat → Bool} {x a b : Nat} (ha : I a = true) (hb : I b = true) (hn : a ≠ b) (hl : pkN dd a b < x) : CK dd I x a b := fun P p0 hs => hs a b ha hb hn p0 hl
theorem jn_cases {lab : Nat → Nat} {U V u v : Nat} (h : jn lab U V u = jn lab U V v) : lab u = lab v ∨ (lab u = U ∧ lab v = V) ∨ (lab u = V ∧ lab v = U) := by
  unfold jn at h
  rcases nmin_cases U V with ⟨e1, e2, -⟩ | ⟨e1, e2, -⟩ <;> rw [e1, e2] at h <;> split at h <;> split at h <;> omega
/-- the chain as it grows by its least pairs: all below K are joined, none but these -/
def KRU (dd : Nat → Nat → Nat) (I : Nat → Bool) (n c : Nat) (to lab : Nat → Nat) (K : Nat) : Prop :=
  (∀ u v, I u = true → I v = true → u ≠ v → pkN dd u v < K → lab u = lab v) ∧
  (∀ u v, I u = true → I v = true → lab u = lab v → CK dd I K u v) ∧
  (∀ i j, i < j → j < c → to i < to j) ∧
  (∀ i, i < c → to i < K ∧ PE dd I (to i)) ∧
  (∀ x, PE dd I x → x < K → ∃ i, i < c ∧ to i = x) ∧
  (∀ x, I x = true → I (lab x) = true ∧ lab x ≤ x ∧ lab (lab x) = lab x) ∧
  sumI (rp lab) I n + c = cI I n
theorem kru_0 {dd : Nat → Nat → Nat} {I : Nat → Bool} {n : Nat} {to : Nat → Nat} : KRU dd I n 0 to (fun t => t) 0 := ⟨fun _ _ _ _ _ h => absurd h (Nat.not_lt_zero _), fun u v _ _ e => by
  have e2 : u = v := e
  rw [e2]; exact CK.rf, fun _ j _ h => absurd h (Nat.not_lt_zero j), fun i h => absurd h (Nat.not_lt_zero i), fun x _ h => absurd h (Nat.not_lt_zero x), fun x hx => ⟨hx, Nat.le_refl x, rfl⟩, by rw [sumI_cI]; rfl⟩
theorem kru_congr {dd : Nat → Nat → Nat} {I : Nat → Bool} {n c K : Nat} {to t2 lab : Nat → Nat} (h : KRU dd I n c to lab K) (e : ∀ i, i < c → to i = t2 i) : KRU dd I n c t2 lab K := by
  obtain ⟨h1, h2, h3, h4, h5, h6, h7⟩ := h
  refine ⟨h1, h2, fun i j hi hj => ?_, fun i hi => ?_, fun x hx hk => ?_, h6, h7⟩
  · rw [← e i (by omega), ← e j hj]; exact h3 i j hi hj
  · rw [← e i hi]; exact h4 i hi
  · obtain ⟨i, hi, z⟩ := h5 x hx hk
    exact ⟨i, hi, by rw [← e i hi]; exact z⟩
theorem kru_step {dd : Nat → Nat → Nat} {I : Nat → Bool} {n c K x y : Nat} {to lab : Nat → Nat} (hsy : ∀ x y, I x = true → I y = true → dd x y = dd y x) (hI : ∀ t, I t = true → t < n) (hn : n ≤ 60) (h : KRU dd I n c to lab K) (hq : XQ I lab x y) (hmin : ∀ u v, XQ I lab u v → pkN dd x y ≤ pkN dd u v) : KRU dd I n (c + 1) (setN to c (pkN dd x y)) (jn lab (lab x) (lab y)) (pkN dd x y + 1) := by
  obtain ⟨h1, h2, h3, h4, h5, h6, h7⟩ := h
  obtain ⟨hxy, hx, hy, hne⟩ := hq
  have hpc : ∀ u v, I u = true → I v = true → pkN dd u v = pkN dd v u := fun u v hu hv => pk_comm (hsy u v hu hv)
  have hK : K ≤ pkN dd x y := by
    rcases Nat.lt_or_ge (pkN dd x y) K with q | q
    · exact absurd (h1 x y hx hy (by omega) q) hne
    · exact q
  have hlow : ∀ u v, I u = true → I v = true → u ≠ v → pkN dd u v < pkN dd x y → lab u = lab v := by
    intro u v hu hv huv hl
    apply Classical.byContradiction
    intro z
    rcases Nat.lt_or_ge u v with q | q
    · have := hmin u v ⟨q, hu, hv, z⟩
      omega
    · have := hmin v u ⟨by omega, hv, hu, fun e => z e.symm⟩
      rw [hpc v u hv hu] at this
      omega
  obtain ⟨a1, a2, a3⟩ := h6 x hx
  obtain ⟨b1, b2, b3⟩ := h6 y hy
  refine ⟨fun u v hu hv huv hl => ?_, fun u v hu hv e => ?_, fun i j hi hj => ?_, fun i hi => ?_, fun z hz hk => ?_, fun t ht => ?_, ?_⟩
  · rcases Nat.lt_or_ge (pkN dd u v) (pkN dd x y) with q | q
    · exact jn_eq (hlow u v hu hv huv q)
    · have e : pkN dd u v = pkN dd x y := by omega
      have u6 := hI u hu
      have v6 := hI v hv
      have x6 := hI x hx
      have y6 := hI y hy
      rcases pk_inj (by omega) (by omega) (by omega) (by omega) e with ⟨rfl, rfl⟩ | ⟨rfl, rfl⟩
      · exact jn_both lab _ _
      · exact (jn_both lab _ _).symm
  · rcases jn_cases e with q | ⟨q1, q2⟩ | ⟨q1, q2⟩
    · exact (h2 u v hu hv q).mono (by omega)
    · exact CK.tr ((h2 u x hu hx q1).mono (by omega)) (CK.tr (CK.one hx hy (by omega) (by omega)) ((h2 y v hy hv q2.symm).mono (by omega)))
    · exact CK.tr ((h2 u y hu hy q1).mono (by omega)) (CK.tr (CK.one hy hx (by omega) (by rw [hpc y x hy hx]; omega)) ((h2 x v hx hv q2.symm).mono (by omega)))
  · rcases Nat.lt_or_ge j c with q | q
    · rw [setN_n (by omega), setN_n (by omega)]; exact h3 i j hi q
    · rw [show j = c by omega, setN_s, setN_n (by omega)]
      have := (h4 i (by omega)).1
      omega
  · rcases Nat.lt_or_ge i c with q | q
    · rw [setN_n (by omega)]
      exact ⟨by have := (h4 i q).1; omega, (h4 i q).2⟩
    · rw [show i = c by omega, setN_s]
      exact ⟨by omega, x, y, hx, hy, hxy, rfl, fun hck => hne (hck (fun z => lab x = lab z) rfl (fun u v hu hv huv hp hl => hp.trans (hlow u v hu hv huv hl)))⟩
  · rcases Nat.lt_or_ge z K with q | q
    · obtain ⟨i, hi, e⟩ := h5 z hz q
      exact ⟨i, by omega, by rw [setN_n (by omega)]; exact e⟩
    · by_cases w : z = pkN dd x y
      · exact ⟨c, by omega, by rw [setN_s]; exact w.symm⟩
      · obtain ⟨p, r, hp, hr, hpr, e, hnc⟩ := hz
        exact absurd ((h2 p r hp hr (hlow p r hp hr (by omega) (by omega))).mono q) hnc
  · obtain ⟨t1, t2, t4⟩ := h6 t ht
    unfold jn
    rcases nmin_cases (lab x) (lab y) with ⟨e1, e2, e3⟩ | ⟨e1, e2, e3⟩
    · rw [e1, e2]
      by_cases c : lab t = lab y
      · rw [if_pos c, if_neg (by omega)]
        exact ⟨a1, by omega, a3⟩
      · rw [if_neg c, if_neg (by omega)]
        exact ⟨t1, t2, t4⟩
    · rw [e1, e2]
      by_cases c : lab t = lab x
      · rw [if_pos c, if_neg (by omega)]
        exact ⟨b1, by omega, b3⟩
      · rw [if_neg c, if_neg (by omega)]
        exact ⟨t1, t2, t4⟩
  · rcases nmin_cases (lab x) (lab y) with ⟨e1, e2, e3⟩ | ⟨e1, e2, e3⟩
    · have q := sumI_drop (g := rp lab) (h := rp (jn lab (lab x) (lab y))) (I := I) (M := lab y) b1 (by unfold rp; rw [if_pos b3]) (by unfold rp jn; rw [e1, e2, if_pos b3, if_neg hne]) (fun t ht hIt => by
        unfold rp jn
        rw [e1, e2]
        by_cases c : lab t = lab y
        · rw [if_pos c, if_neg (show ¬ lab t = t by omega), if_neg (fun z => by rw [← z, a3] at c; exact hne c)]
        · rw [if_neg c]) n
      rw [if_pos (hI _ b1)] at q
      omega
    · have q := sumI_drop (g := rp lab) (h := rp (jn lab (lab x) (lab y))) (I := I) (M := lab x) a1 (by unfold rp; rw [if_pos a3]) (by unfold rp jn; rw [e1, e2, if_pos a3, if_neg (fun z => hne z.symm)]) (fun t ht hIt => by
        unfold rp jn
        rw [e1, e2]
        by_cases c : lab t = lab x
        · rw [if_pos c, if_neg (show ¬ lab t = t by omega), if_neg (fun z => by rw [← z, b3] at c; exact hne c.symm)]
        · rw [if_neg c]) n
      rw [if_pos (hI _ a1)] at q
      omega
theorem kru_cross {dd : Nat → Nat → Nat} {I : Nat → Bool} {n c K : Nat} {to lab : Nat → Nat} (h : KRU dd I n c to lab K) (hc : c + 1 < cI I n) : ∃ x y, XQ I lab x y := by
  apply Classical.byContradiction
  intro z
  have := sumI_one (lab := lab) (I := I) (fun s t hst hs ht => Classical.byContradiction (fun q => z ⟨s, t, hst, hs, ht, q⟩)) n
  have := h.2.2.2.2.2.2
  omega
def CHK (dd : Nat → Nat → Nat) (I : Nat → Bool) (c : Nat) (to : Nat → Nat) : Prop := CHN dd I c to ∧ ∀ x, PE dd I x → ∃ i, i < c ∧ to i = x
theorem kru_end {dd : Nat → Nat → Nat} {I : Nat → Bool} {n c K : Nat} {to lab : Nat → Nat} (hI : ∀ t, I t = true → t < n) (h : KRU dd I n c to lab K) (hc : cI I n ≤ c + 1) : CHK dd I c to := by
  obtain ⟨h1, h2, h3, h4, h5, h6, h7⟩ := h
  refine ⟨⟨h3, fun i hi => (h4 i hi).2⟩, fun x hx => ?_⟩
  rcases Nat.lt_or_ge x K with q | q
  · exact h5 x hx q
  · obtain ⟨a, b, ha, hb, hab, e, hn⟩ := hx
    have hne : lab a ≠ lab b := fun z => hn ((h2 a b ha hb z).mono q)
    obtain ⟨a1, -, a3⟩ := h6 a ha
    obtain ⟨b1, -, b3⟩ := h6 b hb
    have r1 : rp lab (lab a) = 1 := if_pos a3
    have r2 : rp lab (lab b) = 1 := if_pos b3
    rcases Nat.lt_or_ge (lab a) (lab b) with y | y
    · have := sumI_ge2 y a1 r1 b1 r2 n (hI _ b1)
      omega
    · have := sumI_ge2 (show lab b < lab a by omega) b1 r2 a1 r1 n (hI _ a1)
      omega
theorem rise_far {t : Nat → Nat} {c : Nat} (h : ∀ i j, i < j → j < c → t i < t j) : ∀ d i, i + d < c → t i + d ≤ t (i + d) := by
  intro d
  induction d with
  | zero => intro i _; exact Nat.le_refl _
  | succ d ih =>
    intro i hi
    have a := ih i (by omega)
    have b := h (i + d) (i + (d + 1)) (by omega) hi
    omega
theorem ch_uni {dd : Nat → Nat → Nat} {I : Nat → Bool} {c : Nat} {t1 t2 : Nat → Nat} (h1 : CHN dd I c t1) (h2 : CHK dd I c t2) : ∀ i, i < c → t1 i = t2 i := by
  have ex : ∀ i, ∃ j, i < c → j < c ∧ t2 j = t1 i := fun i => by
    by_cases q : i < c
    · obtain ⟨j, hj, e⟩ := h2.2 _ (h1.2 i q)
      exact ⟨j, fun _ => ⟨hj, e⟩⟩
    · exact ⟨0, fun z => absurd z q⟩
  have hs := fun i => Classical.choose_spec (ex i)
  have rise : ∀ i j, i < j → j < c → Classical.choose (ex i) < Classical.choose (ex j) := by
    intro i j hij hj
    obtain ⟨p1, p2⟩ := hs i (by omega)
    obtain ⟨q1, q2⟩ := hs j hj
    have := h1.1 i j hij hj
    rcases Nat.lt_trichotomy (Classical.choose (ex i)) (Classical.choose (ex j)) with z | z | z
    · exact z
    · rw [← p2, ← q2, z] at this; exact absurd this (Nat.lt_irrefl _)
    · have := h2.1.1 _ _ z p1; omega
  intro i hi
  obtain ⟨p1, p2⟩ := hs i hi
  have lo := rise_far rise i 0 (by omega)
  have hi2 := rise_far rise (c - 1 - i) i (by omega)
  have top := (hs (i + (c - 1 - i)) (by omega)).1
  rw [Nat.zero_add] at lo
  have e : Classical.choose (ex i) = i := by omega
  rw [e] at p2
  exact p2.symm
theorem sumK_congr {a b : Nat → Nat} : ∀ c, (∀ i, i < c → a i = b i) → sumK a c = sumK b c := by
  intro c
  induction c with
  | zero => intro _; rfl
  | succ c ih =>
    intro h
    show sumK a c + a c / 3600 = sumK b c + b c / 3600
    rw [ih (fun i hi => h i (by omega)), h c (by omega)]
theorem sumK_pk {dd : Nat → Nat → Nat} {xs ys : Nat → Nat} {i : Nat} (h1 : xs i < ys i) (h2 : ys i < 60) : sumK (fun i => pkN dd (xs i) (ys i)) i + dd (xs i) (ys i) = sumK (fun i => pkN dd (xs i) (ys i)) (i + 1) := by
  have := pop_pk (dd := dd) (w := 2) h1 h2
  unfold pop at this
  simp only [show ¬ (2 = 0) by decide, show ¬ (2 = 1) by decide, if_false] at this
  show _ = sumK _ i + pkN dd (xs i) (ys i) / 3600
  rw [this]

set_option maxHeartbeats 4000000 in
set_option maxRecDepth 100000 in
theorem c_X11_chains (E : Ev) (A : Nat → Nat) (ln : Nat → Int32) (pl : Nat → Int32) (td : Nat → Int32) (zi : Nat → Int32) (rf : Nat → Int32) (rg : Nat → Int32) (co : Nat → Int32) (bs : Nat → Int32) (zt : Nat → Int32) (al : Nat → Int32) (pp : Nat → Int32) (pw : Nat → Int32) (ph : Nat → Int32) (n : Nat) (kd : Nat) (rk : Nat) (ps : Int32) (L : Nat → Nat) (tN : Nat → Nat) (I : Nat → Bool) (hK : MDK n kd L ln pl tN td) (hZ : ZI n zi I) : CTv E yX11_chains (wq yX11_chains cX11_chains 6 none) (rmk 3 75) [.ref (A 0)] [ob (A 0) 11 [.int (nI n), .int (nI kd), .ref (A 1), .ref (A 2), .ref (A 3), .ref (A 4), .int (nI rk), .ref (A 5), .ref (A 6), .ref (A 7), .ref (A 8), .ref (A 9), .ref (A 10), .ref (A 11), .int ps, .ref (A 12), .ref (A 13)], ia E (A 1) 60 ln, ia E (A 2) 480 pl, ia E (A 3) 3600 td, za E (A 4) 60 zi, ia E (A 5) 60 rf, ia E (A 6) 60 rg, ia E (A 7) 81 co, ia E (A 8) 3 bs, za E (A 9) 60 zt, ia E (A 10) 3600 al, ia E (A 11) 60 pp, ia E (A 12) 60 pw, ia E (A 13) 60 ph] (fun (u : (Nat → Int32) × (Nat → Int32) × Nat × (Nat → Int32) × (Nat → Int32)) => u.2.2.1 = cI I n - 1 ∧ ∃ xs ys : Nat → Nat, (∀ i, i < u.2.2.1 → u.2.2.2.1 i = nI (xs i) ∧ u.2.2.2.2 i = nI (ys i) ∧ xs i < ys i ∧ ys i < 60) ∧ CHK (dsN kd L pl tN) I u.2.2.1 (fun i => pkN (dsN kd L pl tN) (xs i) (ys i))) (fun (u : (Nat → Int32) × (Nat → Int32) × Nat × (Nat → Int32) × (Nat → Int32)) => [ob (A 0) 11 [.int (nI n), .int (nI kd), .ref (A 1), .ref (A 2), .ref (A 3), .ref (A 4), .int (nI rk), .ref (A 5), .ref (A 6), .ref (A 7), .ref (A 8), .ref (A 9), .ref (A 10), .ref (A 11), .int (nI u.2.2.1), .ref (A 12), .ref (A 13)], ia E (A 1) 60 ln, ia E (A 2) 480 pl, ia E (A 3) 3600 td, za E (A 4) 60 zi, ia E (A 5) 60 rf, ia E (A 6) 60 rg, ia E (A 7) 81 u.1, ia E (A 8) 3 bs, za E (A 9) 60 zt, ia E (A 10) 3600 al, ia E (A 11) 60 u.2.1, ia E (A 12) 60 u.2.2.2.1, ia E (A 13) 60 u.2.2.2.2]) := by
  refine CTv.of (by decide) (Nat.le_of_ble_eq_true rfl) (fun X F R => ?_)
  refine g_lv [0] [(0, .ref (A 0))] rfl ?_
  have hn60 := hK.1
  have hI60 : ∀ t, I t = true → t < 60 := fun t ht => Nat.lt_of_lt_of_le (hZ.2 t ht) hn60
  have hcl := cI_le I n
  refine g_aload_n F 0 rfl dX11_chains_0 ?_
  refine g_cVv F (wr := []) [] (c_X11_alonePieces E A ln pl td zi rf rg co bs zt al pp pw ph n kd rk ps L tN I (hK) (hZ)) (gi_V tw_ml_X11_126 tw_im_X11_alonePieces tw_se_X11_alonePieces tw_in_X11 tw_co_X11_alonePieces) 0 rfl (by decide) ⟨rfl, rfl, by decide, by decide, Nat.zero_le _, Nat.zero_le _⟩ 11 0 rfl rfl [0, 1, 2, 3, 4, 5, 6, 7, 8, 9, 10, 11, 12, 13] [] [0, 1, 2, 3, 4, 5, 6, 7, 8, 9, 10, 11, 12, 13] (fun u => [ob (A 0) 11 [.int (nI n), .int (nI kd), .ref (A 1), .ref (A 2), .ref (A 3), .ref (A 4), .int (nI rk), .ref (A 5), .ref (A 6), .ref (A 7), .ref (A 8), .ref (A 9), .ref (A 10), .ref (A 11), .int ps, .ref (A 12), .ref (A 13)], ia E (A 1) 60 ln, ia E (A 2) 480 pl, ia E (A 3) 3600 td, za E (A 4) 60 zi, ia E (A 5) 60 rf, ia E (A 6) 60 rg, ia E (A 7) 81 co, ia E (A 8) 3 bs, za E (A 9) 60 zt, ia E (A 10) 3600 al, ia E (A 11) 60 u, ia E (A 12) 60 pw, ia E (A 13) 60 ph]) rfl rfl (by decide) (fun _ => rfl) rfl (Nat.le_of_ble_eq_true rfl) dX11_chains_1 (fun u hu_1 => ?_)
  revert hu_1; revert u; intro pp_0 hu_1
  refine g_aload_n F 0 rfl dX11_chains_4 ?_
  refine g_iconst F (nI 0) (by decide) dX11_chains_5 ?_
  refine g_put F 11 0 14 [ob (A 0) 11 [.int (nI n), .int (nI kd), .ref (A 1), .ref (A 2), .ref (A 3), .ref (A 4), .int (nI rk), .ref (A 5), .ref (A 6), .ref (A 7), .ref (A 8), .ref (A 9), .ref (A 10), .ref (A 11), .int (nI 0), .ref (A 12), .ref (A 13)], ia E (A 1) 60 ln, ia E (A 2) 480 pl, ia E (A 3) 3600 td, za E (A 4) 60 zi, ia E (A 5) 60 rf, ia E (A 6) 60 rg, ia E (A 7) 81 co, ia E (A 8) 3 bs, za E (A 9) 60 zt, ia E (A 10) 3600 al, ia E (A 11) 60 pp_0, ia E (A 12) 60 pw, ia E (A 13) 60 ph] inX11 tyX11_ok nmX11 rfl rfl (by decide) tw_fl_X11_129 rfl rfl rfl rfl (Nat.le_of_ble_eq_true rfl) rfl dX11_chains_6 ?_
  refine g_aload_n F 0 rfl dX11_chains_9 ?_
  refine g_rVi F (wr := []) [] (c_X11_inBook E A ln pl td zi rf rg co bs zt al pp_0 pw ph n kd rk (nI 0) L tN I (hK) (hZ)) (gi_V tw_ml_X11_112 tw_im_X11_inBook tw_se_X11_inBook tw_in_X11 tw_co_X11_inBook) 0 rfl (by decide) ⟨rfl, rfl, by decide, by decide, Nat.zero_le _, Nat.zero_le _⟩ 11 0 rfl rfl [0, 1, 2, 3, 4, 5, 6, 7, 8, 9, 10, 11, 12, 13] [] [0, 1, 2, 3, 4, 5, 6, 7, 8, 9, 10, 11, 12, 13] rfl rfl (by decide) rfl rfl (Nat.le_of_ble_eq_true rfl) dX11_chains_10 ?_
  refine g_istore_n F 1 [(0, .ref (A 0)), (1, .int (nI (cI I n)))] [1, 0] dX11_chains_13 rfl (by decide) rfl ?_
  have lp_14 : ∀ (n_14 : Nat) (c : Nat) (xs : Nat → Nat) (ys : Nat → Nat) (lab : Nat → Nat) (K : Nat) (g : Nat → Int32) (pa : Nat → Int32) (wa : Nat → Int32) (ha : Nat → Int32), (c = 0 ∨ c + 1 ≤ cI I n) → (LBa n pa lab) → (∀ i, i < c → wa i = nI (xs i) ∧ ha i = nI (ys i) ∧ xs i < ys i ∧ ys i < 60) → (KRU (dsN kd L pl tN) I n c (fun i => pkN (dsN kd L pl tN) (xs i) (ys i)) lab K) → cI I n - c < n_14 → GW E X 0 0 [ob (A 0) 11 [.int (nI n), .int (nI kd), .ref (A 1), .ref (A 2), .ref (A 3), .ref (A 4), .int (nI rk), .ref (A 5), .ref (A 6), .ref (A 7), .ref (A 8), .ref (A 9), .ref (A 10), .ref (A 11), .int (nI c), .ref (A 12), .ref (A 13)], ia E (A 1) 60 ln, ia E (A 2) 480 pl, ia E (A 3) 3600 td, za E (A 4) 60 zi, ia E (A 5) 60 rf, ia E (A 6) 60 rg, ia E (A 7) 81 g, ia E (A 8) 3 bs, za E (A 9) 60 zt, ia E (A 10) 3600 al, ia E (A 11) 60 pa, ia E (A 12) 60 wa, ia E (A 13) 60 ha] [(0, .ref (A 0)), (1, .int (nI (cI I n)))] 14 [] := by
    intro n_14
    induction n_14 with
    | zero => intro c xs ys lab K g pa wa ha hc hl hw hkr hm_14; exact absurd hm_14 (Nat.not_lt_zero _)
    | succ n_14 ih_14 =>
      intro c xs ys lab K g pa wa ha hc hl hw hkr hm_14
      refine g_aload_n F 0 rfl dX11_chains_14 ?_
      refine g_get F 11 0 14 inX11 rfl rfl (by decide) tw_fl_X11_129 rfl dX11_chains_15 ?_
      refine g_iconst F (nI 1) (by decide) dX11_chains_18 ?_
      refine n_add F dX11_chains_19 ?_
      refine g_iload_n F 1 rfl dX11_chains_20 ?_
      refine n_icmp_ge F 174 dX11_chains_21 (by decide) (by omega) (by omega) (fun c_21 => ?_) (fun c_21 => ?_)
      · exact R ((g, pa, c, wa, ha)) _ _ dX11_chains_174 (by (try dsimp only); exact (⟨by omega, xs, ys, hw, kru_end hZ.2 hkr (by omega)⟩))
      · refine g_iconst F (-1) (by decide) dX11_chains_24 ?_
        refine g_istore_n F 2 [(0, .ref (A 0)), (1, .int (nI (cI I n))), (2, .int (-1))] [1, 2, 0] dX11_chains_25 rfl (by decide) rfl ?_
        refine g_iconst F (-1) (by decide) dX11_chains_26 ?_
        refine g_istore_n F 3 [(0, .ref (A 0)), (1, .int (nI (cI I n))), (2, .int (-1)), (3, .int (-1))] [1, 2, 3, 0] dX11_chains_27 rfl (by decide) rfl ?_
        refine g_iconst F (nI 0) (by decide) dX11_chains_28 ?_
        refine g_istore F 4 [(0, .ref (A 0)), (1, .int (nI (cI I n))), (2, .int (-1)), (3, .int (-1)), (4, .int (nI 0))] [1, 2, 3, 4, 0] dX11_chains_29 (by decide) rfl ?_
        have hq60 : ∀ p q, XQ I lab p q → p < q ∧ q < 60 := fun p q z => ⟨z.1, hI60 q z.2.2.1⟩
        have lp_31 : ∀ (n_31 : Nat) (a0 : Nat) (w : Int32) (v : Int32) (g2 : Nat → Int32), (a0 ≤ n) → (CQP (dsN kd L pl tN) (XQ I lab) a0 0 w v) → n - a0 < n_31 → GW E X 0 0 [ob (A 0) 11 [.int (nI n), .int (nI kd), .ref (A 1), .ref (A 2), .ref (A 3), .ref (A 4), .int (nI rk), .ref (A 5), .ref (A 6), .ref (A 7), .ref (A 8), .ref (A 9), .ref (A 10), .ref (A 11), .int (nI c), .ref (A 12), .ref (A 13)], ia E (A 1) 60 ln, ia E (A 2) 480 pl, ia E (A 3) 3600 td, za E (A 4) 60 zi, ia E (A 5) 60 rf, ia E (A 6) 60 rg, ia E (A 7) 81 g2, ia E (A 8) 3 bs, za E (A 9) 60 zt, ia E (A 10) 3600 al, ia E (A 11) 60 pa, ia E (A 12) 60 wa, ia E (A 13) 60 ha] [(0, .ref (A 0)), (1, .int (nI (cI I n))), (2, .int w), (3, .int v), (4, .int (nI a0))] 31 [] := by
          intro n_31
          induction n_31 with
          | zero => intro a0 w v g2 ha0 hcp0 hm_31; exact absurd hm_31 (Nat.not_lt_zero _)
          | succ n_31 ih_31 =>
            intro a0 w v g2 ha0 hcp0 hm_31
            refine g_iload F 4 rfl dX11_chains_31 ?_
            refine g_aload_n F 0 rfl dX11_chains_33 ?_
            refine g_get F 11 0 0 inX11 rfl rfl (by decide) tw_fl_X11_50 rfl dX11_chains_34 ?_
            refine n_icmp_ge F 135 dX11_chains_37 (by decide) (by omega) (by omega) (fun c_37 => ?_) (fun c_37 => ?_)
            · obtain ⟨p1, q1, rfl, rfl, hp3, -, hp5⟩ := hcp0.resolve_left (fun z => by
                  obtain ⟨x1, y1, h9⟩ := kru_cross hkr (by omega)
                  exact z.2 x1 y1 (Or.inl (by have := hZ.2 x1 h9.2.1; omega)) h9)
              have h9 := hq60 _ _ hp3
              have hq1n := hZ.2 q1 hp3.2.2.1
              have hmin : ∀ u v, XQ I lab u v → pkN (dsN kd L pl tN) p1 q1 ≤ pkN (dsN kd L pl tN) u v := fun u v hz => hp5 u v (Or.inl (by have := hZ.2 u hz.2.1; omega)) hz
              refine g_aload_n F 0 rfl dX11_chains_135 ?_
              refine g_get F 11 0 15 inX11 rfl rfl (by decide) tw_fl_X11_44 rfl dX11_chains_136 ?_
              refine g_aload_n F 0 rfl dX11_chains_139 ?_
              refine g_get F 11 0 14 inX11 rfl rfl (by decide) tw_fl_X11_129 rfl dX11_chains_140 ?_
              refine g_iload_n F 2 rfl dX11_chains_143 ?_
              refine g_iast F 12 [ob (A 0) 11 [.int (nI n), .int (nI kd), .ref (A 1), .ref (A 2), .ref (A 3), .ref (A 4), .int (nI rk), .ref (A 5), .ref (A 6), .ref (A 7), .ref (A 8), .ref (A 9), .ref (A 10), .ref (A 11), .int (nI c), .ref (A 12), .ref (A 13)], ia E (A 1) 60 ln, ia E (A 2) 480 pl, ia E (A 3) 3600 td, za E (A 4) 60 zi, ia E (A 5) 60 rf, ia E (A 6) 60 rg, ia E (A 7) 81 g2, ia E (A 8) 3 bs, za E (A 9) 60 zt, ia E (A 10) 3600 al, ia E (A 11) 60 pa, ia E (A 12) 60 (upd wa c (nI p1)), ia E (A 13) 60 ha] rfl (by omega) (by decide) rfl dX11_chains_144 ?_
              refine g_aload_n F 0 rfl dX11_chains_145 ?_
              refine g_get F 11 0 16 inX11 rfl rfl (by decide) tw_fl_X11_47 rfl dX11_chains_146 ?_
              refine g_aload_n F 0 rfl dX11_chains_149 ?_
              refine g_get F 11 0 14 inX11 rfl rfl (by decide) tw_fl_X11_129 rfl dX11_chains_150 ?_
              refine g_iload_n F 3 rfl dX11_chains_153 ?_
              refine g_iast F 13 [ob (A 0) 11 [.int (nI n), .int (nI kd), .ref (A 1), .ref (A 2), .ref (A 3), .ref (A 4), .int (nI rk), .ref (A 5), .ref (A 6), .ref (A 7), .ref (A 8), .ref (A 9), .ref (A 10), .ref (A 11), .int (nI c), .ref (A 12), .ref (A 13)], ia E (A 1) 60 ln, ia E (A 2) 480 pl, ia E (A 3) 3600 td, za E (A 4) 60 zi, ia E (A 5) 60 rf, ia E (A 6) 60 rg, ia E (A 7) 81 g2, ia E (A 8) 3 bs, za E (A 9) 60 zt, ia E (A 10) 3600 al, ia E (A 11) 60 pa, ia E (A 12) 60 (upd wa c (nI p1)), ia E (A 13) 60 (upd ha c (nI q1))] rfl (by omega) (by decide) rfl dX11_chains_154 ?_
              refine g_aload_n F 0 rfl dX11_chains_155 ?_
              refine g_dup F rfl dX11_chains_156 ?_
              refine g_get F 11 0 14 inX11 rfl rfl (by decide) tw_fl_X11_129 rfl dX11_chains_157 ?_
              refine g_iconst F (nI 1) (by decide) dX11_chains_160 ?_
              refine n_add F dX11_chains_161 ?_
              refine g_put F 11 0 14 [ob (A 0) 11 [.int (nI n), .int (nI kd), .ref (A 1), .ref (A 2), .ref (A 3), .ref (A 4), .int (nI rk), .ref (A 5), .ref (A 6), .ref (A 7), .ref (A 8), .ref (A 9), .ref (A 10), .ref (A 11), .int (nI (c + 1)), .ref (A 12), .ref (A 13)], ia E (A 1) 60 ln, ia E (A 2) 480 pl, ia E (A 3) 3600 td, za E (A 4) 60 zi, ia E (A 5) 60 rf, ia E (A 6) 60 rg, ia E (A 7) 81 g2, ia E (A 8) 3 bs, za E (A 9) 60 zt, ia E (A 10) 3600 al, ia E (A 11) 60 pa, ia E (A 12) 60 (upd wa c (nI p1)), ia E (A 13) 60 (upd ha c (nI q1))] inX11 tyX11_ok nmX11 rfl rfl (by decide) tw_fl_X11_129 rfl rfl rfl rfl (Nat.le_of_ble_eq_true rfl) rfl dX11_chains_162 ?_
              refine g_aload_n F 0 rfl dX11_chains_165 ?_
              refine g_iload_n F 2 rfl dX11_chains_166 ?_
              refine g_iload_n F 3 rfl dX11_chains_167 ?_
              refine g_cVv F (wr := []) [] (c_X11_joins E A ln pl td zi rf rg g2 bs zt al pa (upd wa c (nI p1)) (upd ha c (nI q1)) n kd rk (nI (c + 1)) L tN I p1 q1 lab (hK) (hZ) (by omega) (by omega) (hl)) (gi_V tw_ml_X11_132 tw_im_X11_joins tw_se_X11_joins tw_in_X11 tw_co_X11_joins) 2 rfl (by decide) ⟨rfl, rfl, by decide, by decide, Nat.zero_le _, Nat.zero_le _⟩ 11 0 rfl rfl [0, 1, 2, 3, 4, 5, 6, 7, 8, 9, 10, 11, 12, 13] [] [0, 1, 2, 3, 4, 5, 6, 7, 8, 9, 10, 11, 12, 13] (fun u => [ob (A 0) 11 [.int (nI n), .int (nI kd), .ref (A 1), .ref (A 2), .ref (A 3), .ref (A 4), .int (nI rk), .ref (A 5), .ref (A 6), .ref (A 7), .ref (A 8), .ref (A 9), .ref (A 10), .ref (A 11), .int (nI (c + 1)), .ref (A 12), .ref (A 13)], ia E (A 1) 60 ln, ia E (A 2) 480 pl, ia E (A 3) 3600 td, za E (A 4) 60 zi, ia E (A 5) 60 rf, ia E (A 6) 60 rg, ia E (A 7) 81 g2, ia E (A 8) 3 bs, za E (A 9) 60 zt, ia E (A 10) 3600 al, ia E (A 11) 60 u, ia E (A 12) 60 (upd wa c (nI p1)), ia E (A 13) 60 (upd ha c (nI q1))]) rfl rfl (by decide) (fun _ => rfl) rfl (Nat.le_of_ble_eq_true rfl) dX11_chains_168 (fun u hu_168 => ?_)
              revert hu_168; revert u; intro pp_168 hu_168
              refine g_goto F 14 dX11_chains_171 (by decide) ?_
              refine g_lv [0, 1] [(0, .ref (A 0)), (1, .int (nI (cI I n)))] rfl ?_
              exact ih_14 (c + 1) (setN xs c p1) (setN ys c q1) (jn lab (lab p1) (lab q1)) (pkN (dsN kd L pl tN) p1 q1 + 1) g2 pp_168 (upd wa c (nI p1)) (upd ha c (nI q1)) (by omega) (hu_168) (lt_s (fun i hi => by
                  rw [pk_un (by omega), pk_un (by omega), setN_n (by omega), setN_n (by omega)]
                  exact hw i hi) (by
                  rw [pk_us, pk_us, setN_s, setN_s]
                  exact ⟨rfl, rfl, h9.1, h9.2⟩)) (kru_congr (kru_step (fun x9 y9 h8 h9 => ds_sym hK.2.2.2.2.2 (hI60 x9 h8) (hI60 y9 h9)) hZ.2 hn60 hkr hp3 hmin) (fun i hi => by
                  rcases Nat.lt_or_ge i c with q | q
                  · rw [setN_n (by omega), setN_n (by omega), setN_n (by omega)]
                  · rw [show i = c by omega, setN_s, setN_s, setN_s])) (by omega)
            · refine g_iload F 4 rfl dX11_chains_40 ?_
              refine g_iconst F (nI 1) (by decide) dX11_chains_42 ?_
              refine n_add F dX11_chains_43 ?_
              refine g_istore F 5 [(0, .ref (A 0)), (1, .int (nI (cI I n))), (2, .int w), (3, .int v), (4, .int (nI a0)), (5, .int (nI (a0 + 1)))] [1, 2, 3, 4, 5, 0] dX11_chains_44 (by decide) rfl ?_
              have lp_46 : ∀ (n_46 : Nat) (b0 : Nat) (w : Int32) (v : Int32) (g3 : Nat → Int32), (a0 < b0 ∧ b0 ≤ n) → (CQP (dsN kd L pl tN) (XQ I lab) a0 b0 w v) → n - b0 < n_46 → GW E X 0 0 [ob (A 0) 11 [.int (nI n), .int (nI kd), .ref (A 1), .ref (A 2), .ref (A 3), .ref (A 4), .int (nI rk), .ref (A 5), .ref (A 6), .ref (A 7), .ref (A 8), .ref (A 9), .ref (A 10), .ref (A 11), .int (nI c), .ref (A 12), .ref (A 13)], ia E (A 1) 60 ln, ia E (A 2) 480 pl, ia E (A 3) 3600 td, za E (A 4) 60 zi, ia E (A 5) 60 rf, ia E (A 6) 60 rg, ia E (A 7) 81 g3, ia E (A 8) 3 bs, za E (A 9) 60 zt, ia E (A 10) 3600 al, ia E (A 11) 60 pa, ia E (A 12) 60 wa, ia E (A 13) 60 ha] [(0, .ref (A 0)), (1, .int (nI (cI I n))), (2, .int w), (3, .int v), (4, .int (nI a0)), (5, .int (nI b0))] 46 [] := by
                intro n_46
                induction n_46 with
                | zero => intro b0 w v g3 hb0 hcp hm_46; exact absurd hm_46 (Nat.not_lt_zero _)
                | succ n_46 ih_46 =>
                  intro b0 w v g3 hb0 hcp hm_46
                  refine g_iload F 5 rfl dX11_chains_46 ?_
                  refine g_aload_n F 0 rfl dX11_chains_48 ?_
                  refine g_get F 11 0 0 inX11 rfl rfl (by decide) tw_fl_X11_50 rfl dX11_chains_49 ?_
                  refine n_icmp_ge F 129 dX11_chains_52 (by decide) (by omega) (by omega) (fun c_52 => ?_) (fun c_52 => ?_)
                  · refine g_iinc F (nI (a0 + 1)) 4 4 [(0, .ref (A 0)), (1, .int (nI (cI I n))), (2, .int w), (3, .int v), (4, .int (nI (a0 + 1))), (5, .int (nI b0))] [1, 2, 3, 4, 0, 5] dX11_chains_129 rfl (n_inc a0) (by decide) rfl ?_
                    refine g_goto F 31 dX11_chains_132 (by decide) ?_
                    refine g_lv [0, 1, 2, 3, 4] [(0, .ref (A 0)), (1, .int (nI (cI I n))), (2, .int w), (3, .int v), (4, .int (nI (a0 + 1)))] rfl ?_
                    exact ih_31 (a0 + 1) w v g3 (by omega) (cq_conv hcp (fun p q hz => by have := hq60 p q hz; have := hZ.2 q hz.2.2.1; have := hz.1; unfold DNE; omega)) (by omega)
                  · refine g_aload_n F 0 rfl dX11_chains_55 ?_
                    refine g_get F 11 0 5 inX11 rfl rfl (by decide) tw_fl_X11_19 rfl dX11_chains_56 ?_
                    refine g_iload F 4 rfl dX11_chains_59 ?_
                    refine g_zald F 4 rfl (by omega) (by decide) dX11_chains_61 ?_
                    refine g_top (bI (I a0)) (hZ.1 a0 (by omega)) ?_
                    refine b_if_eq F 123 dX11_chains_62 (by decide) (fun c_62 => ?_) (fun c_62 => ?_)
                    · refine g_iinc F (nI (b0 + 1)) 5 5 [(0, .ref (A 0)), (1, .int (nI (cI I n))), (2, .int w), (3, .int v), (4, .int (nI a0)), (5, .int (nI (b0 + 1)))] [1, 2, 3, 4, 5, 0] dX11_chains_123 rfl (n_inc b0) (by decide) rfl ?_
                      refine g_goto F 46 dX11_chains_126 (by decide) ?_
                      exact ih_46 (b0 + 1) w v g3 (by omega) (cq_skip hcp (fun z => by have q9 := z.2.1; rw [c_62] at q9; cases q9)) (by omega)
                    · refine g_aload_n F 0 rfl dX11_chains_65 ?_
                      refine g_get F 11 0 5 inX11 rfl rfl (by decide) tw_fl_X11_19 rfl dX11_chains_66 ?_
                      refine g_iload F 5 rfl dX11_chains_69 ?_
                      refine g_zald F 4 rfl (by omega) (by decide) dX11_chains_71 ?_
                      refine g_top (bI (I b0)) (hZ.1 b0 (by omega)) ?_
                      refine b_if_eq F 123 dX11_chains_72 (by decide) (fun c_72 => ?_) (fun c_72 => ?_)
                      · refine g_iinc F (nI (b0 + 1)) 5 5 [(0, .ref (A 0)), (1, .int (nI (cI I n))), (2, .int w), (3, .int v), (4, .int (nI a0)), (5, .int (nI (b0 + 1)))] [1, 2, 3, 4, 5, 0] dX11_chains_123 rfl (n_inc b0) (by decide) rfl ?_
                        refine g_goto F 46 dX11_chains_126 (by decide) ?_
                        exact ih_46 (b0 + 1) w v g3 (by omega) (cq_skip hcp (fun z => by have q9 := z.2.2.1; rw [c_72] at q9; cases q9)) (by omega)
                      · refine g_aload_n F 0 rfl dX11_chains_75 ?_
                        refine g_get F 11 0 13 inX11 rfl rfl (by decide) tw_fl_X11_41 rfl dX11_chains_76 ?_
                        refine g_iload F 4 rfl dX11_chains_79 ?_
                        refine g_iald F 11 rfl (by omega) (by decide) dX11_chains_81 ?_
                        refine g_top (nI (lab a0)) ((hl a0 (by omega)).1) ?_
                        refine g_aload_n F 0 rfl dX11_chains_82 ?_
                        refine g_get F 11 0 13 inX11 rfl rfl (by decide) tw_fl_X11_41 rfl dX11_chains_83 ?_
                        refine g_iload F 5 rfl dX11_chains_86 ?_
                        refine g_iald F 11 rfl (by omega) (by decide) dX11_chains_88 ?_
                        refine g_top (nI (lab b0)) ((hl b0 (by omega)).1) ?_
                        refine n_icmp_eq F 123 dX11_chains_89 (by decide) (by have := (hl a0 (by omega)).2; omega) (by have := (hl b0 (by omega)).2; omega) (fun c_89 => ?_) (fun c_89 => ?_)
                        · refine g_iinc F (nI (b0 + 1)) 5 5 [(0, .ref (A 0)), (1, .int (nI (cI I n))), (2, .int w), (3, .int v), (4, .int (nI a0)), (5, .int (nI (b0 + 1)))] [1, 2, 3, 4, 5, 0] dX11_chains_123 rfl (n_inc b0) (by decide) rfl ?_
                          refine g_goto F 46 dX11_chains_126 (by decide) ?_
                          exact ih_46 (b0 + 1) w v g3 (by omega) (cq_skip hcp (fun z => by exact z.2.2.2 c_89)) (by omega)
                        · refine g_iload_n F 2 rfl dX11_chains_92 ?_
                          refine g_iconst F (-1) (by decide) dX11_chains_93 ?_
                          refine g_icmp_eq F 117 dX11_chains_94 (by decide) (fun c_94 => ?_) (fun c_94 => ?_)
                          · refine g_iload F 4 rfl dX11_chains_117 ?_
                            refine g_istore_n F 2 [(0, .ref (A 0)), (1, .int (nI (cI I n))), (2, .int (nI a0)), (3, .int v), (4, .int (nI a0)), (5, .int (nI b0))] [1, 2, 0, 3, 4, 5] dX11_chains_119 rfl (by decide) rfl ?_
                            refine g_iload F 5 rfl dX11_chains_120 ?_
                            refine g_istore_n F 3 [(0, .ref (A 0)), (1, .int (nI (cI I n))), (2, .int (nI a0)), (3, .int (nI b0)), (4, .int (nI a0)), (5, .int (nI b0))] [1, 2, 3, 0, 4, 5] dX11_chains_122 rfl (by decide) rfl ?_
                            refine g_iinc F (nI (b0 + 1)) 5 5 [(0, .ref (A 0)), (1, .int (nI (cI I n))), (2, .int (nI a0)), (3, .int (nI b0)), (4, .int (nI a0)), (5, .int (nI (b0 + 1)))] [1, 2, 3, 4, 5, 0] dX11_chains_123 rfl (n_inc b0) (by decide) rfl ?_
                            refine g_goto F 46 dX11_chains_126 (by decide) ?_
                            exact ih_46 (b0 + 1) (nI a0) (nI b0) g3 (by omega) (cq_new hcp c_94 hq60 ⟨by omega, c_62, c_72, c_89⟩) (by omega)
                          · obtain ⟨p1, q1, rfl, rfl, hp3, hp4, hp5⟩ := hcp.resolve_left (fun z => c_94 z.1)
                            have h9 := hq60 _ _ hp3
                            have d1 := ds_le (kd := kd) (a := a0) (b := b0) hK.2.2.1 hK.2.2.2.1 hK.2.2.2.2.1 (by omega) (by omega)
                            have d2 := ds_le (kd := kd) (a := p1) (b := q1) hK.2.2.1 hK.2.2.2.1 hK.2.2.2.2.1 (by omega) (by omega)
                            refine g_aload_n F 0 rfl dX11_chains_97 ?_
                            refine g_iload F 4 rfl dX11_chains_98 ?_
                            refine g_iload F 5 rfl dX11_chains_100 ?_
                            refine g_cVi F (wr := []) [] (c_X11_far E A ln pl td zi rf rg g3 bs zt al pa wa ha n kd rk (nI c) L tN I a0 b0 (hK) (hZ) (by omega) (by omega)) (gi_V tw_ml_X11_86 tw_im_X11_far tw_se_X11_far tw_in_X11 tw_co_X11_far) 2 rfl (by decide) ⟨rfl, rfl, by decide, by decide, Nat.zero_le _, Nat.zero_le _⟩ 11 0 rfl rfl [0, 1, 2, 3, 4, 5, 6, 7, 8, 9, 10, 11, 12, 13] [] [0, 1, 2, 3, 4, 5, 6, 7, 8, 9, 10, 11, 12, 13] (fun u => [ob (A 0) 11 [.int (nI n), .int (nI kd), .ref (A 1), .ref (A 2), .ref (A 3), .ref (A 4), .int (nI rk), .ref (A 5), .ref (A 6), .ref (A 7), .ref (A 8), .ref (A 9), .ref (A 10), .ref (A 11), .int (nI c), .ref (A 12), .ref (A 13)], ia E (A 1) 60 ln, ia E (A 2) 480 pl, ia E (A 3) 3600 td, za E (A 4) 60 zi, ia E (A 5) 60 rf, ia E (A 6) 60 rg, ia E (A 7) 81 u, ia E (A 8) 3 bs, za E (A 9) 60 zt, ia E (A 10) 3600 al, ia E (A 11) 60 pa, ia E (A 12) 60 wa, ia E (A 13) 60 ha]) rfl rfl (by decide) (fun _ => rfl) rfl (Nat.le_of_ble_eq_true rfl) dX11_chains_102 (fun r_102 u hu_102 => ?_)
                            revert hu_102; revert u; intro co_102 hu_102
                            subst hu_102
                            refine g_aload_n F 0 rfl dX11_chains_105 ?_
                            refine g_iload_n F 2 rfl dX11_chains_106 ?_
                            refine g_iload_n F 3 rfl dX11_chains_107 ?_
                            refine g_cVi F (wr := []) [.int (nI (dsN kd L pl tN a0 b0))] (c_X11_far E A ln pl td zi rf rg co_102 bs zt al pa wa ha n kd rk (nI c) L tN I p1 q1 (hK) (hZ) (by omega) (by omega)) (gi_V tw_ml_X11_86 tw_im_X11_far tw_se_X11_far tw_in_X11 tw_co_X11_far) 2 rfl (by decide) ⟨rfl, rfl, by decide, by decide, Nat.zero_le _, Nat.zero_le _⟩ 11 0 rfl rfl [0, 1, 2, 3, 4, 5, 6, 7, 8, 9, 10, 11, 12, 13] [] [0, 1, 2, 3, 4, 5, 6, 7, 8, 9, 10, 11, 12, 13] (fun u => [ob (A 0) 11 [.int (nI n), .int (nI kd), .ref (A 1), .ref (A 2), .ref (A 3), .ref (A 4), .int (nI rk), .ref (A 5), .ref (A 6), .ref (A 7), .ref (A 8), .ref (A 9), .ref (A 10), .ref (A 11), .int (nI c), .ref (A 12), .ref (A 13)], ia E (A 1) 60 ln, ia E (A 2) 480 pl, ia E (A 3) 3600 td, za E (A 4) 60 zi, ia E (A 5) 60 rf, ia E (A 6) 60 rg, ia E (A 7) 81 u, ia E (A 8) 3 bs, za E (A 9) 60 zt, ia E (A 10) 3600 al, ia E (A 11) 60 pa, ia E (A 12) 60 wa, ia E (A 13) 60 ha]) rfl rfl (by decide) (fun _ => rfl) rfl (Nat.le_of_ble_eq_true rfl) dX11_chains_108 (fun r_108 u hu_108 => ?_)
                            revert hu_108; revert u; intro co_108 hu_108
                            subst hu_108
                            refine n_icmp_lt F 117 dX11_chains_111 (by decide) (by omega) (by omega) (fun c_111 => ?_) (fun c_111 => ?_)
                            · refine g_iload F 4 rfl dX11_chains_117 ?_
                              refine g_istore_n F 2 [(0, .ref (A 0)), (1, .int (nI (cI I n))), (2, .int (nI a0)), (3, .int (nI q1)), (4, .int (nI a0)), (5, .int (nI b0))] [1, 2, 0, 3, 4, 5] dX11_chains_119 rfl (by decide) rfl ?_
                              refine g_iload F 5 rfl dX11_chains_120 ?_
                              refine g_istore_n F 3 [(0, .ref (A 0)), (1, .int (nI (cI I n))), (2, .int (nI a0)), (3, .int (nI b0)), (4, .int (nI a0)), (5, .int (nI b0))] [1, 2, 3, 0, 4, 5] dX11_chains_122 rfl (by decide) rfl ?_
                              refine g_iinc F (nI (b0 + 1)) 5 5 [(0, .ref (A 0)), (1, .int (nI (cI I n))), (2, .int (nI a0)), (3, .int (nI b0)), (4, .int (nI a0)), (5, .int (nI (b0 + 1)))] [1, 2, 3, 4, 5, 0] dX11_chains_123 rfl (n_inc b0) (by decide) rfl ?_
                              refine g_goto F 46 dX11_chains_126 (by decide) ?_
                              exact ih_46 (b0 + 1) (nI a0) (nI b0) co_108 (by omega) (cq_take hq60 ⟨by omega, c_62, c_72, c_89⟩ hp3 hp5 c_111) (by omega)
                            · refine g_goto F 123 dX11_chains_114 (by decide) ?_
                              refine g_iinc F (nI (b0 + 1)) 5 5 [(0, .ref (A 0)), (1, .int (nI (cI I n))), (2, .int (nI p1)), (3, .int (nI q1)), (4, .int (nI a0)), (5, .int (nI (b0 + 1)))] [1, 2, 3, 4, 5, 0] dX11_chains_123 rfl (n_inc b0) (by decide) rfl ?_
                              refine g_goto F 46 dX11_chains_126 (by decide) ?_
                              exact ih_46 (b0 + 1) (nI p1) (nI q1) co_108 (by omega) (cq_keep hq60 hp3 hp4 hp5 (by omega)) (by omega)
              exact lp_46 _ (a0 + 1) w v g2 (by omega) (cq_conv hcp0 (fun p q hz => by have := hz.1; unfold DNE; omega)) (Nat.lt_succ_self _)
        exact lp_31 _ 0 (-1) (-1) g (by omega) (Or.inl ⟨rfl, fun p q z => by unfold DNE at z; omega⟩) (Nat.lt_succ_self _)
  exact lp_14 _ 0 (fun _ => 0) (fun _ => 0) (fun t => t) 0 co pp_0 pw ph (by omega) (fun t ht => hu_1 t (by omega)) (fun i h => absurd h (Nat.not_lt_zero i)) (kru_0) (Nat.lt_succ_self _)

set_option maxHeartbeats 4000000 in
set_option maxRecDepth 100000 in
theorem c_X11_chain (E : Ev) (A : Nat → Nat) (ln : Nat → Int32) (pl : Nat → Int32) (td : Nat → Int32) (zi : Nat → Int32) (rf : Nat → Int32) (rg : Nat → Int32) (co : Nat → Int32) (bs : Nat → Int32) (zt : Nat → Int32) (al : Nat → Int32) (pp : Nat → Int32) (pw : Nat → Int32) (ph : Nat → Int32) (n : Nat) (kd : Nat) (rk : Nat) (ps : Int32) (L : Nat → Nat) (tN : Nat → Nat) (I : Nat → Bool) (rt : Nat → Nat) (ra : Nat → Nat) (x : Int32) (hK : MDK n kd L ln pl tN td) (hZ : ZI n zi I) (hR : NBR rk rf rg rt ra) : CTl E yX11_chain (wq yX11_chain cX11_chain 5 (some .long)) (rmk 4 100) [.ref (A 0), .int x] [ob (A 0) 11 [.int (nI n), .int (nI kd), .ref (A 1), .ref (A 2), .ref (A 3), .ref (A 4), .int (nI rk), .ref (A 5), .ref (A 6), .ref (A 7), .ref (A 8), .ref (A 9), .ref (A 10), .ref (A 11), .int ps, .ref (A 12), .ref (A 13)], ia E (A 1) 60 ln, ia E (A 2) 480 pl, ia E (A 3) 3600 td, za E (A 4) 60 zi, ia E (A 5) 60 rf, ia E (A 6) 60 rg, ia E (A 7) 81 co, ia E (A 8) 3 bs, za E (A 9) 60 zt, ia E (A 10) 3600 al, ia E (A 11) 60 pp, ia E (A 12) 60 pw, ia E (A 13) 60 ph] (fun (r : Int64) (u : (Nat → Int32) × (Nat → Int32) × (Nat → Int32) × Int32 × (Nat → Int32) × (Nat → Int32)) => (∃ w0, w0 ≤ 1 ∧ x = nI w0 ∧ LWK kd tN n ∧ ∃ to, CHK (dsN kd L pl tN) I (cI I n - 1) to ∧ r = if w0 = 0 then lN (cI I n - 1) else lN (sumK to (cI I n - 1))) ∨ (((∀ w0, w0 ≤ 1 → x ≠ nI w0) ∨ ¬ LWK kd tN n) ∧ r = -1)) (fun (u : (Nat → Int32) × (Nat → Int32) × (Nat → Int32) × Int32 × (Nat → Int32) × (Nat → Int32)) => [ob (A 0) 11 [.int (nI n), .int (nI kd), .ref (A 1), .ref (A 2), .ref (A 3), .ref (A 4), .int (nI rk), .ref (A 5), .ref (A 6), .ref (A 7), .ref (A 8), .ref (A 9), .ref (A 10), .ref (A 11), .int u.2.2.2.1, .ref (A 12), .ref (A 13)], ia E (A 1) 60 ln, ia E (A 2) 480 pl, ia E (A 3) 3600 td, za E (A 4) 60 zi, ia E (A 5) 60 rf, ia E (A 6) 60 rg, ia E (A 7) 81 u.1, ia E (A 8) 3 u.2.1, za E (A 9) 60 zt, ia E (A 10) 3600 al, ia E (A 11) 60 u.2.2.1, ia E (A 12) 60 u.2.2.2.2.1, ia E (A 13) 60 u.2.2.2.2.2]) := by
  refine CTl.of (by decide) (Nat.le_of_ble_eq_true rfl) (fun X F R => ?_)
  refine g_lv [0, 1] [(0, .ref (A 0)), (1, .int x)] rfl ?_
  have hn60 := hK.1
  have hI60 : ∀ t, I t = true → t < 60 := fun t ht => Nat.lt_of_lt_of_le (hZ.2 t ht) hn60
  have hcl := cI_le I n
  refine g_iload_n F 1 rfl dX11_chain_0 ?_
  refine g_iconst F (nI 0) (by decide) dX11_chain_1 ?_
  refine g_iconst F (nI 1) (by decide) dX11_chain_2 ?_
  refine g_cSi F (wr := [ob (A 0) 11 [.int (nI n), .int (nI kd), .ref (A 1), .ref (A 2), .ref (A 3), .ref (A 4), .int (nI rk), .ref (A 5), .ref (A 6), .ref (A 7), .ref (A 8), .ref (A 9), .ref (A 10), .ref (A 11), .int ps, .ref (A 12), .ref (A 13)], ia E (A 1) 60 ln, ia E (A 2) 480 pl, ia E (A 3) 3600 td, za E (A 4) 60 zi, ia E (A 5) 60 rf, ia E (A 6) 60 rg, ia E (A 7) 81 co, ia E (A 8) 3 bs, za E (A 9) 60 zt, ia E (A 10) 3600 al, ia E (A 11) 60 pp, ia E (A 12) 60 pw, ia E (A 13) 60 ph]) [] (c_X11_lies E x (nI 0) (nI 1) ) ⟨tw_ml_X11_54, tw_sm_X11_lies, tw_in_X11, tw_co_X11_lies⟩ 3 rfl (by decide) ⟨rfl, rfl, by decide, by decide, Nat.zero_le _, Nat.zero_le _⟩ [] [0, 1, 2, 3, 4, 5, 6, 7, 8, 9, 10, 11, 12, 13] [0, 1, 2, 3, 4, 5, 6, 7, 8, 9, 10, 11, 12, 13] (fun u => [ob (A 0) 11 [.int (nI n), .int (nI kd), .ref (A 1), .ref (A 2), .ref (A 3), .ref (A 4), .int (nI rk), .ref (A 5), .ref (A 6), .ref (A 7), .ref (A 8), .ref (A 9), .ref (A 10), .ref (A 11), .int ps, .ref (A 12), .ref (A 13)], ia E (A 1) 60 ln, ia E (A 2) 480 pl, ia E (A 3) 3600 td, za E (A 4) 60 zi, ia E (A 5) 60 rf, ia E (A 6) 60 rg, ia E (A 7) 81 co, ia E (A 8) 3 bs, za E (A 9) 60 zt, ia E (A 10) 3600 al, ia E (A 11) 60 pp, ia E (A 12) 60 pw, ia E (A 13) 60 ph]) rfl rfl (by decide) (fun _ => rfl) rfl (Nat.le_of_ble_eq_true rfl) dX11_chain_3 (fun r_3 u hu_3 => ?_)
  rcases hu_3 with ⟨rfl, l1_3, l2_3⟩ | ⟨rfl, l0_3⟩
  · refine g_if_eq F 16 dX11_chain_6 (by decide) (fun h => absurd h (by decide)) (fun _ => ?_)
    refine g_aload_n F 0 rfl dX11_chain_9 ?_
    refine g_cVi F (wr := []) [] (c_X11_holds E A ln pl td zi rf rg co bs zt al pp pw ph n kd rk ps L tN I (hK) (hZ)) (gi_V tw_ml_X11_89 tw_im_X11_holds tw_se_X11_holds tw_in_X11 tw_co_X11_holds) 0 rfl (by decide) ⟨rfl, rfl, by decide, by decide, Nat.zero_le _, Nat.zero_le _⟩ 11 0 rfl rfl [0, 1, 2, 3, 4, 5, 6, 7, 8, 9, 10, 11, 12, 13] [] [0, 1, 2, 3, 4, 5, 6, 7, 8, 9, 10, 11, 12, 13] (fun u => [ob (A 0) 11 [.int (nI n), .int (nI kd), .ref (A 1), .ref (A 2), .ref (A 3), .ref (A 4), .int (nI rk), .ref (A 5), .ref (A 6), .ref (A 7), .ref (A 8), .ref (A 9), .ref (A 10), .ref (A 11), .int ps, .ref (A 12), .ref (A 13)], ia E (A 1) 60 ln, ia E (A 2) 480 pl, ia E (A 3) 3600 td, za E (A 4) 60 zi, ia E (A 5) 60 rf, ia E (A 6) 60 rg, ia E (A 7) 81 co, ia E (A 8) 3 u, za E (A 9) 60 zt, ia E (A 10) 3600 al, ia E (A 11) 60 pp, ia E (A 12) 60 pw, ia E (A 13) 60 ph]) rfl rfl (by decide) (fun _ => rfl) rfl (Nat.le_of_ble_eq_true rfl) dX11_chain_10 (fun r_10 u hu_10 => ?_)
    revert hu_10; revert u; intro bs2_10 hu_10
    rcases hu_10 with ⟨rfl, hlw⟩ | ⟨rfl, hk5, htb⟩
    · refine g_if_ne F 20 dX11_chain_13 (by decide) (fun _ => ?_) (fun h => absurd h (by decide))
      obtain ⟨w0, hw0, rfl⟩ := lie_r (hi := 1) (by decide) l1_3 l2_3
      refine g_aload_n F 0 rfl dX11_chain_20 ?_
      refine g_cVv F (wr := []) [] (c_X11_chains E A ln pl td zi rf rg co bs2_10 zt al pp pw ph n kd rk ps L tN I (hK) (hZ)) (gi_V tw_ml_X11_137 tw_im_X11_chains tw_se_X11_chains tw_in_X11 tw_co_X11_chains) 0 rfl (by decide) ⟨rfl, rfl, by decide, by decide, Nat.zero_le _, Nat.zero_le _⟩ 11 0 rfl rfl [0, 1, 2, 3, 4, 5, 6, 7, 8, 9, 10, 11, 12, 13] [] [0, 1, 2, 3, 4, 5, 6, 7, 8, 9, 10, 11, 12, 13] (fun u => [ob (A 0) 11 [.int (nI n), .int (nI kd), .ref (A 1), .ref (A 2), .ref (A 3), .ref (A 4), .int (nI rk), .ref (A 5), .ref (A 6), .ref (A 7), .ref (A 8), .ref (A 9), .ref (A 10), .ref (A 11), .int (nI u.2.2.1), .ref (A 12), .ref (A 13)], ia E (A 1) 60 ln, ia E (A 2) 480 pl, ia E (A 3) 3600 td, za E (A 4) 60 zi, ia E (A 5) 60 rf, ia E (A 6) 60 rg, ia E (A 7) 81 u.1, ia E (A 8) 3 bs2_10, za E (A 9) 60 zt, ia E (A 10) 3600 al, ia E (A 11) 60 u.2.1, ia E (A 12) 60 u.2.2.2.1, ia E (A 13) 60 u.2.2.2.2]) rfl rfl (by decide) (fun _ => rfl) rfl (Nat.le_of_ble_eq_true rfl) dX11_chain_21 (fun u hu_21 => ?_)
      obtain ⟨co_t, pp_t, ps_t, pw_t, ph_t⟩ := u
      refine g_ws [ob (A 0) 11 [.int (nI n), .int (nI kd), .ref (A 1), .ref (A 2), .ref (A 3), .ref (A 4), .int (nI rk), .ref (A 5), .ref (A 6), .ref (A 7), .ref (A 8), .ref (A 9), .ref (A 10), .ref (A 11), .int (nI ps_t), .ref (A 12), .ref (A 13)], ia E (A 1) 60 ln, ia E (A 2) 480 pl, ia E (A 3) 3600 td, za E (A 4) 60 zi, ia E (A 5) 60 rf, ia E (A 6) 60 rg, ia E (A 7) 81 co_t, ia E (A 8) 3 bs2_10, za E (A 9) 60 zt, ia E (A 10) 3600 al, ia E (A 11) 60 pp_t, ia E (A 12) 60 pw_t, ia E (A 13) 60 ph_t] rfl ?_
      dsimp only at hu_21
      obtain ⟨rfl, xs, ys, hw, hchk⟩ := hu_21
      refine g_lconst F (lN 0) rfl dX11_chain_24 ?_
      refine g_lstore_n F 2 [(0, .ref (A 0)), (1, .int (nI w0)), (2, .long (lN 0))] [1, 2, 0] dX11_chain_25 rfl (by decide) rfl ?_
      refine g_iconst F (nI 0) (by decide) dX11_chain_26 ?_
      refine g_istore F 4 [(0, .ref (A 0)), (1, .int (nI w0)), (2, .long (lN 0)), (4, .int (nI 0))] [1, 2, 3, 0] dX11_chain_27 (by decide) rfl ?_
      have lp_29 : ∀ (n_29 : Nat) (i : Nat) (g : Nat → Int32), (i ≤ cI I n - 1) → cI I n - 1 - i < n_29 → GW E X 0 0 [ob (A 0) 11 [.int (nI n), .int (nI kd), .ref (A 1), .ref (A 2), .ref (A 3), .ref (A 4), .int (nI rk), .ref (A 5), .ref (A 6), .ref (A 7), .ref (A 8), .ref (A 9), .ref (A 10), .ref (A 11), .int (nI (cI I n - 1)), .ref (A 12), .ref (A 13)], ia E (A 1) 60 ln, ia E (A 2) 480 pl, ia E (A 3) 3600 td, za E (A 4) 60 zi, ia E (A 5) 60 rf, ia E (A 6) 60 rg, ia E (A 7) 81 g, ia E (A 8) 3 bs2_10, za E (A 9) 60 zt, ia E (A 10) 3600 al, ia E (A 11) 60 pp_t, ia E (A 12) 60 pw_t, ia E (A 13) 60 ph_t] [(0, .ref (A 0)), (1, .int (nI w0)), (2, .long (lN (sumK (fun i => pkN (dsN kd L pl tN) (xs i) (ys i)) i))), (4, .int (nI i))] 29 [] := by
        intro n_29
        induction n_29 with
        | zero => intro i g hi hm_29; exact absurd hm_29 (Nat.not_lt_zero _)
        | succ n_29 ih_29 =>
          intro i g hi hm_29
          refine g_iload F 3 rfl dX11_chain_29 ?_
          refine g_aload_n F 0 rfl dX11_chain_31 ?_
          refine g_get F 11 0 14 inX11 rfl rfl (by decide) tw_fl_X11_129 rfl dX11_chain_32 ?_
          refine n_icmp_ge F 66 dX11_chain_35 (by decide) (by omega) (by omega) (fun c_35 => ?_) (fun c_35 => ?_)
          · refine g_iload_n F 1 rfl dX11_chain_66 ?_
            refine n_if_ne F 78 dX11_chain_67 (by decide) (by omega) (fun c_67 => ?_) (fun c_67 => ?_)
            · refine g_lload_n F 2 rfl dX11_chain_78 ?_
              exact R _ ((g, bs2_10, pp_t, nI (cI I n - 1), pw_t, ph_t)) _ _ dX11_chain_79 (by (try dsimp only); exact (Or.inl ⟨w0, hw0, rfl, hlw, (fun i => pkN (dsN kd L pl tN) (xs i) (ys i)), hchk, by rw [if_neg c_67, show i = cI I n - 1 by omega]⟩))
            · refine g_aload_n F 0 rfl dX11_chain_70 ?_
              refine g_get F 11 0 14 inX11 rfl rfl (by decide) tw_fl_X11_129 rfl dX11_chain_71 ?_
              refine g_i2l F (lN (cI I n - 1)) (nI_l (by omega)) dX11_chain_74 ?_
              refine g_goto F 79 dX11_chain_75 (by decide) ?_
              exact R _ ((g, bs2_10, pp_t, nI (cI I n - 1), pw_t, ph_t)) _ _ dX11_chain_79 (by (try dsimp only); exact (Or.inl ⟨w0, hw0, rfl, hlw, (fun i => pkN (dsN kd L pl tN) (xs i) (ys i)), hchk, by rw [if_pos c_67]⟩))
          · have hxy := (hw i (by omega)).2.2
            refine g_lload_n F 2 rfl dX11_chain_38 ?_
            refine g_aload_n F 0 rfl dX11_chain_39 ?_
            refine g_aload_n F 0 rfl dX11_chain_40 ?_
            refine g_get F 11 0 15 inX11 rfl rfl (by decide) tw_fl_X11_44 rfl dX11_chain_41 ?_
            refine g_iload F 3 rfl dX11_chain_44 ?_
            refine g_iald F 12 rfl (by omega) (by decide) dX11_chain_46 ?_
            refine g_top (nI (xs i)) ((hw i (by omega)).1) ?_
            refine g_aload_n F 0 rfl dX11_chain_47 ?_
            refine g_get F 11 0 16 inX11 rfl rfl (by decide) tw_fl_X11_47 rfl dX11_chain_48 ?_
            refine g_iload F 3 rfl dX11_chain_51 ?_
            refine g_iald F 13 rfl (by omega) (by decide) dX11_chain_53 ?_
            refine g_top (nI (ys i)) ((hw i (by omega)).2.1) ?_
            refine g_cVi F (wr := []) [.long (lN (sumK (fun i => pkN (dsN kd L pl tN) (xs i) (ys i)) i))] (c_X11_far E A ln pl td zi rf rg g bs2_10 zt al pp_t pw_t ph_t n kd rk (nI (cI I n - 1)) L tN I (xs i) (ys i) (hK) (hZ) (by omega) (by omega)) (gi_V tw_ml_X11_86 tw_im_X11_far tw_se_X11_far tw_in_X11 tw_co_X11_far) 2 rfl (by decide) ⟨rfl, rfl, by decide, by decide, Nat.zero_le _, Nat.zero_le _⟩ 11 0 rfl rfl [0, 1, 2, 3, 4, 5, 6, 7, 8, 9, 10, 11, 12, 13] [] [0, 1, 2, 3, 4, 5, 6, 7, 8, 9, 10, 11, 12, 13] (fun u => [ob (A 0) 11 [.int (nI n), .int (nI kd), .ref (A 1), .ref (A 2), .ref (A 3), .ref (A 4), .int (nI rk), .ref (A 5), .ref (A 6), .ref (A 7), .ref (A 8), .ref (A 9), .ref (A 10), .ref (A 11), .int (nI (cI I n - 1)), .ref (A 12), .ref (A 13)], ia E (A 1) 60 ln, ia E (A 2) 480 pl, ia E (A 3) 3600 td, za E (A 4) 60 zi, ia E (A 5) 60 rf, ia E (A 6) 60 rg, ia E (A 7) 81 u, ia E (A 8) 3 bs2_10, za E (A 9) 60 zt, ia E (A 10) 3600 al, ia E (A 11) 60 pp_t, ia E (A 12) 60 pw_t, ia E (A 13) 60 ph_t]) rfl rfl (by decide) (fun _ => rfl) rfl (Nat.le_of_ble_eq_true rfl) dX11_chain_54 (fun r_54 u hu_54 => ?_)
            revert hu_54; revert u; intro co_54 hu_54
            subst hu_54
            refine g_i2l F (lN (dsN kd L pl tN (xs i) (ys i))) (nI_l (by have := ds_le (kd := kd) (a := xs i) (b := ys i) hK.2.2.1 hK.2.2.2.1 hK.2.2.2.2.1 (by omega) (by omega); omega)) dX11_chain_57 ?_
            refine g_ladd F dX11_chain_58 ?_
            refine g_topl (lN (sumK (fun i => pkN (dsN kd L pl tN) (xs i) (ys i)) (i + 1))) (by rw [lN_add]; exact congrArg lN (sumK_pk hxy.1 hxy.2)) ?_
            refine g_lstore_n F 2 [(0, .ref (A 0)), (1, .int (nI w0)), (2, .long (lN (sumK (fun i => pkN (dsN kd L pl tN) (xs i) (ys i)) (i + 1)))), (4, .int (nI i))] [1, 2, 0, 3] dX11_chain_59 rfl (by decide) rfl ?_
            refine g_iinc F (nI (i + 1)) 4 3 [(0, .ref (A 0)), (1, .int (nI w0)), (2, .long (lN (sumK (fun i => pkN (dsN kd L pl tN) (xs i) (ys i)) (i + 1)))), (4, .int (nI (i + 1)))] [1, 2, 3, 0] dX11_chain_60 rfl (n_inc i) (by decide) rfl ?_
            refine g_goto F 29 dX11_chain_63 (by decide) ?_
            exact ih_29 (i + 1) co_54 (by omega) (by omega)
      exact lp_29 _ 0 co_t (by omega) (Nat.lt_succ_self _)
    · refine g_if_ne F 20 dX11_chain_13 (by decide) (fun h => absurd (by decide) h) (fun _ => ?_)
      refine g_ldc2 F tw_cl2_X11_135 dX11_chain_16 ?_
      exact R _ ((co, bs2_10, pp, ps, pw, ph)) _ _ dX11_chain_19 (by (try dsimp only); exact (Or.inr ⟨Or.inr (lwk_no hk5 htb), rfl⟩))
  · refine g_if_eq F 16 dX11_chain_6 (by decide) (fun _ => ?_) (fun h => absurd (by decide) h)
    refine g_ldc2 F tw_cl2_X11_135 dX11_chain_16 ?_
    exact R _ ((co, bs, pp, ps, pw, ph)) _ _ dX11_chain_19 (by (try dsimp only); exact (Or.inr ⟨Or.inl (lie_n (by decide) l0_3), rfl⟩))

set_option maxHeartbeats 4000000 in
set_option maxRecDepth 100000 in
theorem c_X11_pair (E : Ev) (A : Nat → Nat) (ln : Nat → Int32) (pl : Nat → Int32) (td : Nat → Int32) (zi : Nat → Int32) (rf : Nat → Int32) (rg : Nat → Int32) (co : Nat → Int32) (bs : Nat → Int32) (zt : Nat → Int32) (al : Nat → Int32) (pp : Nat → Int32) (pw : Nat → Int32) (ph : Nat → Int32) (n : Nat) (kd : Nat) (rk : Nat) (ps : Int32) (L : Nat → Nat) (tN : Nat → Nat) (I : Nat → Bool) (rt : Nat → Nat) (ra : Nat → Nat) (x : Int32) (y : Int32) (hK : MDK n kd L ln pl tN td) (hZ : ZI n zi I) (hR : NBR rk rf rg rt ra) : CTi E yX11_pair (wq yX11_pair cX11_pair 3 (some .int)) (rmk 4 100) [.ref (A 0), .int x, .int y] [ob (A 0) 11 [.int (nI n), .int (nI kd), .ref (A 1), .ref (A 2), .ref (A 3), .ref (A 4), .int (nI rk), .ref (A 5), .ref (A 6), .ref (A 7), .ref (A 8), .ref (A 9), .ref (A 10), .ref (A 11), .int ps, .ref (A 12), .ref (A 13)], ia E (A 1) 60 ln, ia E (A 2) 480 pl, ia E (A 3) 3600 td, za E (A 4) 60 zi, ia E (A 5) 60 rf, ia E (A 6) 60 rg, ia E (A 7) 81 co, ia E (A 8) 3 bs, za E (A 9) 60 zt, ia E (A 10) 3600 al, ia E (A 11) 60 pp, ia E (A 12) 60 pw, ia E (A 13) 60 ph] (fun (r : Int32) (u : (Nat → Int32) × (Nat → Int32) × (Nat → Int32) × Int32 × (Nat → Int32) × (Nat → Int32)) => (∃ w0, w0 ≤ 2 ∧ y = nI w0 ∧ LWK kd tN n ∧ ∃ to, CHK (dsN kd L pl tN) I (cI I n - 1) to ∧ ((∃ i0, i0 < cI I n - 1 ∧ x = nI i0 ∧ r = nI (pop (to i0) w0)) ∨ ((∀ i0, i0 < cI I n - 1 → x ≠ nI i0) ∧ r = -1))) ∨ (((∀ w0, w0 ≤ 2 → y ≠ nI w0) ∨ ¬ LWK kd tN n) ∧ r = -1)) (fun (u : (Nat → Int32) × (Nat → Int32) × (Nat → Int32) × Int32 × (Nat → Int32) × (Nat → Int32)) => [ob (A 0) 11 [.int (nI n), .int (nI kd), .ref (A 1), .ref (A 2), .ref (A 3), .ref (A 4), .int (nI rk), .ref (A 5), .ref (A 6), .ref (A 7), .ref (A 8), .ref (A 9), .ref (A 10), .ref (A 11), .int u.2.2.2.1, .ref (A 12), .ref (A 13)], ia E (A 1) 60 ln, ia E (A 2) 480 pl, ia E (A 3) 3600 td, za E (A 4) 60 zi, ia E (A 5) 60 rf, ia E (A 6) 60 rg, ia E (A 7) 81 u.1, ia E (A 8) 3 u.2.1, za E (A 9) 60 zt, ia E (A 10) 3600 al, ia E (A 11) 60 u.2.2.1, ia E (A 12) 60 u.2.2.2.2.1, ia E (A 13) 60 u.2.2.2.2.2]) := by
  refine CTi.of (by decide) (Nat.le_of_ble_eq_true rfl) (fun X F R => ?_)
  refine g_lv [0, 1, 2] [(0, .ref (A 0)), (1, .int x), (2, .int y)] rfl ?_
  have hn60 := hK.1
  have hI60 : ∀ t, I t = true → t < 60 := fun t ht => Nat.lt_of_lt_of_le (hZ.2 t ht) hn60
  have hcl := cI_le I n
  refine g_iload_n F 2 rfl dX11_pair_0 ?_
  refine g_iconst F (nI 0) (by decide) dX11_pair_1 ?_
  refine g_iconst F (nI 2) (by decide) dX11_pair_2 ?_
  refine g_cSi F (wr := [ob (A 0) 11 [.int (nI n), .int (nI kd), .ref (A 1), .ref (A 2), .ref (A 3), .ref (A 4), .int (nI rk), .ref (A 5), .ref (A 6), .ref (A 7), .ref (A 8), .ref (A 9), .ref (A 10), .ref (A 11), .int ps, .ref (A 12), .ref (A 13)], ia E (A 1) 60 ln, ia E (A 2) 480 pl, ia E (A 3) 3600 td, za E (A 4) 60 zi, ia E (A 5) 60 rf, ia E (A 6) 60 rg, ia E (A 7) 81 co, ia E (A 8) 3 bs, za E (A 9) 60 zt, ia E (A 10) 3600 al, ia E (A 11) 60 pp, ia E (A 12) 60 pw, ia E (A 13) 60 ph]) [] (c_X11_lies E y (nI 0) (nI 2) ) ⟨tw_ml_X11_54, tw_sm_X11_lies, tw_in_X11, tw_co_X11_lies⟩ 3 rfl (by decide) ⟨rfl, rfl, by decide, by decide, Nat.zero_le _, Nat.zero_le _⟩ [] [0, 1, 2, 3, 4, 5, 6, 7, 8, 9, 10, 11, 12, 13] [0, 1, 2, 3, 4, 5, 6, 7, 8, 9, 10, 11, 12, 13] (fun u => [ob (A 0) 11 [.int (nI n), .int (nI kd), .ref (A 1), .ref (A 2), .ref (A 3), .ref (A 4), .int (nI rk), .ref (A 5), .ref (A 6), .ref (A 7), .ref (A 8), .ref (A 9), .ref (A 10), .ref (A 11), .int ps, .ref (A 12), .ref (A 13)], ia E (A 1) 60 ln, ia E (A 2) 480 pl, ia E (A 3) 3600 td, za E (A 4) 60 zi, ia E (A 5) 60 rf, ia E (A 6) 60 rg, ia E (A 7) 81 co, ia E (A 8) 3 bs, za E (A 9) 60 zt, ia E (A 10) 3600 al, ia E (A 11) 60 pp, ia E (A 12) 60 pw, ia E (A 13) 60 ph]) rfl rfl (by decide) (fun _ => rfl) rfl (Nat.le_of_ble_eq_true rfl) dX11_pair_3 (fun r_3 u hu_3 => ?_)
  rcases hu_3 with ⟨rfl, l1_3, l2_3⟩ | ⟨rfl, l0_3⟩
  · refine g_if_eq F 16 dX11_pair_6 (by decide) (fun h => absurd h (by decide)) (fun _ => ?_)
    refine g_aload_n F 0 rfl dX11_pair_9 ?_
    refine g_cVi F (wr := []) [] (c_X11_holds E A ln pl td zi rf rg co bs zt al pp pw ph n kd rk ps L tN I (hK) (hZ)) (gi_V tw_ml_X11_89 tw_im_X11_holds tw_se_X11_holds tw_in_X11 tw_co_X11_holds) 0 rfl (by decide) ⟨rfl, rfl, by decide, by decide, Nat.zero_le _, Nat.zero_le _⟩ 11 0 rfl rfl [0, 1, 2, 3, 4, 5, 6, 7, 8, 9, 10, 11, 12, 13] [] [0, 1, 2, 3, 4, 5, 6, 7, 8, 9, 10, 11, 12, 13] (fun u => [ob (A 0) 11 [.int (nI n), .int (nI kd), .ref (A 1), .ref (A 2), .ref (A 3), .ref (A 4), .int (nI rk), .ref (A 5), .ref (A 6), .ref (A 7), .ref (A 8), .ref (A 9), .ref (A 10), .ref (A 11), .int ps, .ref (A 12), .ref (A 13)], ia E (A 1) 60 ln, ia E (A 2) 480 pl, ia E (A 3) 3600 td, za E (A 4) 60 zi, ia E (A 5) 60 rf, ia E (A 6) 60 rg, ia E (A 7) 81 co, ia E (A 8) 3 u, za E (A 9) 60 zt, ia E (A 10) 3600 al, ia E (A 11) 60 pp, ia E (A 12) 60 pw, ia E (A 13) 60 ph]) rfl rfl (by decide) (fun _ => rfl) rfl (Nat.le_of_ble_eq_true rfl) dX11_pair_10 (fun r_10 u hu_10 => ?_)
    revert hu_10; revert u; intro bs2_10 hu_10
    rcases hu_10 with ⟨rfl, hlw⟩ | ⟨rfl, hk5, htb⟩
    · refine g_if_ne F 18 dX11_pair_13 (by decide) (fun _ => ?_) (fun h => absurd h (by decide))
      obtain ⟨w0, hw0, rfl⟩ := lie_r (hi := 2) (by decide) l1_3 l2_3
      refine g_aload_n F 0 rfl dX11_pair_18 ?_
      refine g_cVv F (wr := []) [] (c_X11_chains E A ln pl td zi rf rg co bs2_10 zt al pp pw ph n kd rk ps L tN I (hK) (hZ)) (gi_V tw_ml_X11_137 tw_im_X11_chains tw_se_X11_chains tw_in_X11 tw_co_X11_chains) 0 rfl (by decide) ⟨rfl, rfl, by decide, by decide, Nat.zero_le _, Nat.zero_le _⟩ 11 0 rfl rfl [0, 1, 2, 3, 4, 5, 6, 7, 8, 9, 10, 11, 12, 13] [] [0, 1, 2, 3, 4, 5, 6, 7, 8, 9, 10, 11, 12, 13] (fun u => [ob (A 0) 11 [.int (nI n), .int (nI kd), .ref (A 1), .ref (A 2), .ref (A 3), .ref (A 4), .int (nI rk), .ref (A 5), .ref (A 6), .ref (A 7), .ref (A 8), .ref (A 9), .ref (A 10), .ref (A 11), .int (nI u.2.2.1), .ref (A 12), .ref (A 13)], ia E (A 1) 60 ln, ia E (A 2) 480 pl, ia E (A 3) 3600 td, za E (A 4) 60 zi, ia E (A 5) 60 rf, ia E (A 6) 60 rg, ia E (A 7) 81 u.1, ia E (A 8) 3 bs2_10, za E (A 9) 60 zt, ia E (A 10) 3600 al, ia E (A 11) 60 u.2.1, ia E (A 12) 60 u.2.2.2.1, ia E (A 13) 60 u.2.2.2.2]) rfl rfl (by decide) (fun _ => rfl) rfl (Nat.le_of_ble_eq_true rfl) dX11_pair_19 (fun u hu_19 => ?_)
      obtain ⟨co_t, pp_t, ps_t, pw_t, ph_t⟩ := u
      refine g_ws [ob (A 0) 11 [.int (nI n), .int (nI kd), .ref (A 1), .ref (A 2), .ref (A 3), .ref (A 4), .int (nI rk), .ref (A 5), .ref (A 6), .ref (A 7), .ref (A 8), .ref (A 9), .ref (A 10), .ref (A 11), .int (nI ps_t), .ref (A 12), .ref (A 13)], ia E (A 1) 60 ln, ia E (A 2) 480 pl, ia E (A 3) 3600 td, za E (A 4) 60 zi, ia E (A 5) 60 rf, ia E (A 6) 60 rg, ia E (A 7) 81 co_t, ia E (A 8) 3 bs2_10, za E (A 9) 60 zt, ia E (A 10) 3600 al, ia E (A 11) 60 pp_t, ia E (A 12) 60 pw_t, ia E (A 13) 60 ph_t] rfl ?_
      dsimp only at hu_19
      obtain ⟨rfl, xs, ys, hw, hchk⟩ := hu_19
      refine g_iload_n F 1 rfl dX11_pair_22 ?_
      refine g_iconst F (nI 0) (by decide) dX11_pair_23 ?_
      refine g_aload_n F 0 rfl dX11_pair_24 ?_
      refine g_get F 11 0 14 inX11 rfl rfl (by decide) tw_fl_X11_129 rfl dX11_pair_25 ?_
      refine g_iconst F (nI 1) (by decide) dX11_pair_28 ?_
      refine g_isub F dX11_pair_29 ?_
      refine g_cSi F (wr := [ob (A 0) 11 [.int (nI n), .int (nI kd), .ref (A 1), .ref (A 2), .ref (A 3), .ref (A 4), .int (nI rk), .ref (A 5), .ref (A 6), .ref (A 7), .ref (A 8), .ref (A 9), .ref (A 10), .ref (A 11), .int (nI (cI I n - 1)), .ref (A 12), .ref (A 13)], ia E (A 1) 60 ln, ia E (A 2) 480 pl, ia E (A 3) 3600 td, za E (A 4) 60 zi, ia E (A 5) 60 rf, ia E (A 6) 60 rg, ia E (A 7) 81 co_t, ia E (A 8) 3 bs2_10, za E (A 9) 60 zt, ia E (A 10) 3600 al, ia E (A 11) 60 pp_t, ia E (A 12) 60 pw_t, ia E (A 13) 60 ph_t]) [] (c_X11_lies E x (nI 0) ((nI (cI I n - 1)) - (nI 1)) ) ⟨tw_ml_X11_54, tw_sm_X11_lies, tw_in_X11, tw_co_X11_lies⟩ 3 rfl (by decide) ⟨rfl, rfl, by decide, by decide, Nat.zero_le _, Nat.zero_le _⟩ [] [0, 1, 2, 3, 4, 5, 6, 7, 8, 9, 10, 11, 12, 13] [0, 1, 2, 3, 4, 5, 6, 7, 8, 9, 10, 11, 12, 13] (fun u => [ob (A 0) 11 [.int (nI n), .int (nI kd), .ref (A 1), .ref (A 2), .ref (A 3), .ref (A 4), .int (nI rk), .ref (A 5), .ref (A 6), .ref (A 7), .ref (A 8), .ref (A 9), .ref (A 10), .ref (A 11), .int (nI (cI I n - 1)), .ref (A 12), .ref (A 13)], ia E (A 1) 60 ln, ia E (A 2) 480 pl, ia E (A 3) 3600 td, za E (A 4) 60 zi, ia E (A 5) 60 rf, ia E (A 6) 60 rg, ia E (A 7) 81 co_t, ia E (A 8) 3 bs2_10, za E (A 9) 60 zt, ia E (A 10) 3600 al, ia E (A 11) 60 pp_t, ia E (A 12) 60 pw_t, ia E (A 13) 60 ph_t]) rfl rfl (by decide) (fun _ => rfl) rfl (Nat.le_of_ble_eq_true rfl) dX11_pair_30 (fun r_30 u hu_30 => ?_)
      rcases hu_30 with ⟨rfl, l1_30, l2_30⟩ | ⟨rfl, l0_30⟩
      · refine g_if_ne F 38 dX11_pair_33 (by decide) (fun _ => ?_) (fun h => absurd h (by decide))
        obtain ⟨i0, hi0, rfl⟩ := (nsub1 (by omega)).mp ⟨l1_30, l2_30⟩
        have hxy := (hw i0 hi0).2.2
        refine g_iload_n F 2 rfl dX11_pair_38 ?_
        refine n_if_ne F 51 dX11_pair_39 (by decide) (by omega) (fun c_39 => ?_) (fun c_39 => ?_)
        · refine g_iload_n F 2 rfl dX11_pair_51 ?_
          refine g_iconst F (nI 1) (by decide) dX11_pair_52 ?_
          refine n_icmp_ne F 65 dX11_pair_53 (by decide) (by omega) (by omega) (fun c_53 => ?_) (fun c_53 => ?_)
          · refine g_aload_n F 0 rfl dX11_pair_65 ?_
            refine g_aload_n F 0 rfl dX11_pair_66 ?_
            refine g_get F 11 0 15 inX11 rfl rfl (by decide) tw_fl_X11_44 rfl dX11_pair_67 ?_
            refine g_iload_n F 1 rfl dX11_pair_70 ?_
            refine g_iald F 12 rfl (by omega) (by decide) dX11_pair_71 ?_
            refine g_top (nI (xs i0)) ((hw i0 hi0).1) ?_
            refine g_aload_n F 0 rfl dX11_pair_72 ?_
            refine g_get F 11 0 16 inX11 rfl rfl (by decide) tw_fl_X11_47 rfl dX11_pair_73 ?_
            refine g_iload_n F 1 rfl dX11_pair_76 ?_
            refine g_iald F 13 rfl (by omega) (by decide) dX11_pair_77 ?_
            refine g_top (nI (ys i0)) ((hw i0 hi0).2.1) ?_
            refine g_cVi F (wr := []) [] (c_X11_far E A ln pl td zi rf rg co_t bs2_10 zt al pp_t pw_t ph_t n kd rk (nI (cI I n - 1)) L tN I (xs i0) (ys i0) (hK) (hZ) (by omega) (by omega)) (gi_V tw_ml_X11_86 tw_im_X11_far tw_se_X11_far tw_in_X11 tw_co_X11_far) 2 rfl (by decide) ⟨rfl, rfl, by decide, by decide, Nat.zero_le _, Nat.zero_le _⟩ 11 0 rfl rfl [0, 1, 2, 3, 4, 5, 6, 7, 8, 9, 10, 11, 12, 13] [] [0, 1, 2, 3, 4, 5, 6, 7, 8, 9, 10, 11, 12, 13] (fun u => [ob (A 0) 11 [.int (nI n), .int (nI kd), .ref (A 1), .ref (A 2), .ref (A 3), .ref (A 4), .int (nI rk), .ref (A 5), .ref (A 6), .ref (A 7), .ref (A 8), .ref (A 9), .ref (A 10), .ref (A 11), .int (nI (cI I n - 1)), .ref (A 12), .ref (A 13)], ia E (A 1) 60 ln, ia E (A 2) 480 pl, ia E (A 3) 3600 td, za E (A 4) 60 zi, ia E (A 5) 60 rf, ia E (A 6) 60 rg, ia E (A 7) 81 u, ia E (A 8) 3 bs2_10, za E (A 9) 60 zt, ia E (A 10) 3600 al, ia E (A 11) 60 pp_t, ia E (A 12) 60 pw_t, ia E (A 13) 60 ph_t]) rfl rfl (by decide) (fun _ => rfl) rfl (Nat.le_of_ble_eq_true rfl) dX11_pair_78 (fun r_78 u hu_78 => ?_)
            revert hu_78; revert u; intro co_78 hu_78
            subst hu_78
            exact R _ ((co_78, bs2_10, pp_t, nI (cI I n - 1), pw_t, ph_t)) _ _ dX11_pair_81 (by (try dsimp only); exact (Or.inl ⟨w0, hw0, rfl, hlw, (fun i => pkN (dsN kd L pl tN) (xs i) (ys i)), hchk, Or.inl ⟨i0, hi0, rfl, by rw [pop_pk hxy.1 hxy.2, if_neg c_39, if_neg c_53]⟩⟩))
          · refine g_aload_n F 0 rfl dX11_pair_56 ?_
            refine g_get F 11 0 16 inX11 rfl rfl (by decide) tw_fl_X11_47 rfl dX11_pair_57 ?_
            refine g_iload_n F 1 rfl dX11_pair_60 ?_
            refine g_iald F 13 rfl (by omega) (by decide) dX11_pair_61 ?_
            refine g_top (nI (ys i0)) ((hw i0 hi0).2.1) ?_
            refine g_goto F 81 dX11_pair_62 (by decide) ?_
            exact R _ ((co_t, bs2_10, pp_t, nI (cI I n - 1), pw_t, ph_t)) _ _ dX11_pair_81 (by (try dsimp only); exact (Or.inl ⟨w0, hw0, rfl, hlw, (fun i => pkN (dsN kd L pl tN) (xs i) (ys i)), hchk, Or.inl ⟨i0, hi0, rfl, by rw [pop_pk hxy.1 hxy.2, if_neg c_39, if_pos c_53]⟩⟩))
        · refine g_aload_n F 0 rfl dX11_pair_42 ?_
          refine g_get F 11 0 15 inX11 rfl rfl (by decide) tw_fl_X11_44 rfl dX11_pair_43 ?_
          refine g_iload_n F 1 rfl dX11_pair_46 ?_
          refine g_iald F 12 rfl (by omega) (by decide) dX11_pair_47 ?_
          refine g_top (nI (xs i0)) ((hw i0 hi0).1) ?_
          refine g_goto F 81 dX11_pair_48 (by decide) ?_
          exact R _ ((co_t, bs2_10, pp_t, nI (cI I n - 1), pw_t, ph_t)) _ _ dX11_pair_81 (by (try dsimp only); exact (Or.inl ⟨w0, hw0, rfl, hlw, (fun i => pkN (dsN kd L pl tN) (xs i) (ys i)), hchk, Or.inl ⟨i0, hi0, rfl, by rw [pop_pk hxy.1 hxy.2, if_pos c_39]⟩⟩))
      · refine g_if_ne F 38 dX11_pair_33 (by decide) (fun h => absurd (by decide) h) (fun _ => ?_)
        refine g_iconst F (-1) (by decide) dX11_pair_36 ?_
        exact R _ ((co_t, bs2_10, pp_t, nI (cI I n - 1), pw_t, ph_t)) _ _ dX11_pair_37 (by (try dsimp only); exact (Or.inl ⟨w0, hw0, rfl, hlw, (fun i => pkN (dsN kd L pl tN) (xs i) (ys i)), hchk, Or.inr ⟨nsub1n (by omega) l0_30, rfl⟩⟩))
    · refine g_if_ne F 18 dX11_pair_13 (by decide) (fun h => absurd (by decide) h) (fun _ => ?_)
      refine g_iconst F (-1) (by decide) dX11_pair_16 ?_
      exact R _ ((co, bs2_10, pp, ps, pw, ph)) _ _ dX11_pair_17 (by (try dsimp only); exact (Or.inr ⟨Or.inr (lwk_no hk5 htb), rfl⟩))
  · refine g_if_eq F 16 dX11_pair_6 (by decide) (fun _ => ?_) (fun h => absurd (by decide) h)
    refine g_iconst F (-1) (by decide) dX11_pair_16 ?_
    exact R _ ((co, bs, pp, ps, pw, ph)) _ _ dX11_pair_17 (by (try dsimp only); exact (Or.inr ⟨Or.inl (lie_n (by decide) l0_3), rfl⟩))
