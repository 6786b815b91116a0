/-- how far x is from the nearest of the first c of t -/
def md (dd : Nat → Nat → Nat) (t : Nat → Nat) : Nat → Nat → Nat
  | 0, _ => 100000
  | c + 1, x => Nat.min (md dd t c x) (dd (t c) x)
theorem md_congr {dd : Nat → Nat → Nat} {t t2 : Nat → Nat} : ∀ {c : Nat} (x : Nat), (∀ j, j < c → t j = t2 j) → md dd t c x = md dd t2 c x := by
  intro c
  induction c with
  | zero => intro x _; rfl
  | succ c ih =>
    intro x h
    show Nat.min _ _ = Nat.min _ _
    rw [ih x (fun j hj => h j (by omega)), h c (by omega)]
theorem md_le (dd : Nat → Nat → Nat) (t : Nat → Nat) : ∀ (c x : Nat), md dd t c x ≤ 100000 := by
  intro c
  induction c with
  | zero => intro x; exact Nat.le_refl _
  | succ c ih => intro x; exact Nat.le_trans (Nat.min_le_left _ _) (ih x)
theorem md_at {dd : Nat → Nat → Nat} {t : Nat → Nat} : ∀ {c j x : Nat}, j < c → md dd t c x ≤ dd (t j) x := by
  intro c
  induction c with
  | zero => intro j x h; exact absurd h (Nat.not_lt_zero j)
  | succ c ih =>
    intro j x h
    rcases Nat.lt_or_ge j c with q | q
    · exact Nat.le_trans (Nat.min_le_left _ _) (ih q)
    · rw [show j = c by omega]; exact Nat.min_le_right _ _
/-- centres, farthest first: t the things, g how far they were when taken -/
def CE (dd : Nat → Nat → Nat) (I : Nat → Bool) (t g : Nat → Nat) (c : Nat) : Prop := ∀ i, i < c → I (t i) = true ∧ (∀ j, j < i → t j ≠ t i) ∧ (i = 0 → g i = 0 ∧ ∀ x, I x = true → t i ≤ x) ∧ (0 < i → g i = md dd t i (t i) ∧ ∀ x, I x = true → (∀ j, j < i → t j ≠ x) → md dd t i x < g i ∨ (md dd t i x = g i ∧ t i ≤ x))
def RAD (dd : Nat → Nat → Nat) (I : Nat → Bool) (t : Nat → Nat) (c ro : Nat) : Prop := (∀ x, I x = true → md dd t c x ≤ ro) ∧ ∃ x, I x = true ∧ md dd t c x = ro
def cT (tk : Nat → Bool) : Nat → Nat
  | 0 => 0
  | i + 1 => cT tk i + (if tk i = true then 1 else 0)
def setB (tk : Nat → Bool) (w : Nat) : Nat → Bool := fun i => if i = w then true else tk i
def setN (t : Nat → Nat) (w x : Nat) : Nat → Nat := fun i => if i = w then x else t i
theorem setN_s (t : Nat → Nat) (w x : Nat) : setN t w x w = x := by simp [setN]
theorem setN_n {t : Nat → Nat} {w x j : Nat} (h : j ≠ w) : setN t w x j = t j := by simp [setN, h]
theorem cT_set {tk : Nat → Bool} {w : Nat} (hw : tk w = false) : ∀ k, cT (setB tk w) k = cT tk k + (if w < k then 1 else 0) := by
  intro k
  induction k with
  | zero => rfl
  | succ k ih =>
    show cT (setB tk w) k + _ = cT tk k + _ + _
    rw [ih]
    unfold setB
    by_cases c : k = w
    · subst c
      simp [hw]
    · simp only [c, if_false]
      have e2 : (w < k + 1) = (w < k) := propext (by omega)
      simp only [e2]
      omega
theorem cT_full {tk : Nat → Bool} : ∀ k, (∀ i, i < k → tk i = true) → cT tk k = k := by
  intro k
  induction k with
  | zero => intro _; rfl
  | succ k ih =>
    intro h
    show cT tk k + _ = _
    rw [ih (fun i hi => h i (by omega)), if_pos (h k (by omega))]
theorem cT_none {tk : Nat → Bool} : ∀ k, cT tk k = k → ∀ i, i < k → tk i = true := by
  have hle : ∀ k, cT tk k ≤ k := by
    intro k
    induction k with
    | zero => exact Nat.le_refl _
    | succ k ih => show cT tk k + _ ≤ _; split <;> omega
  intro k
  induction k with
  | zero => intro _ i hi; exact absurd hi (Nat.not_lt_zero i)
  | succ k ih =>
    intro h i hi
    have h1 : cT tk k + (if tk k = true then 1 else 0) = k + 1 := h
    have h2 := hle k
    by_cases c : tk k = true
    · rw [if_pos c] at h1
      rcases Nat.lt_or_ge i k with q | q
      · exact ih (by omega) i q
      · rw [show i = k by omega]; exact c
    · rw [if_neg c] at h1; omega
theorem cT_loose {tk : Nat → Bool} {k : Nat} (h : cT tk k < k) : ∃ i, i < k ∧ tk i = false := by
  apply Classical.byContradiction
  intro z
  have : cT tk k = k := cT_full k (fun i hi => by
    cases h : tk i with
    | true => rfl
    | false => exact absurd ⟨i, hi, h⟩ z)
  omega
def GP (gp : Nat → Int32) (k : Nat) (tk : Nat → Bool) (ga : Nat → Nat) : Prop := ∀ i, i < k → gp i = (if tk i = true then -1 else nI (ga i)) ∧ ga i ≤ 100000
def CEI (dd : Nat → Nat → Nat) (I : Nat → Bool) (b : Nat → Nat) (k i nx gap : Nat) (t g : Nat → Nat) (tk : Nat → Bool) : Prop :=
  nx < k ∧ i ≤ k ∧ CE dd I t g i ∧ cT tk k = i ∧ (∀ j, j < k → (tk j = true ↔ ∃ l, l < i ∧ t l = b j)) ∧ gap ≤ 100000 ∧ (i < k → tk nx = false ∧ (i = 0 → gap = 0 ∧ ∀ x, I x = true → b nx ≤ x) ∧ (0 < i → gap = md dd t i (b nx) ∧ ∀ x, I x = true → (∀ l, l < i → t l ≠ x) → md dd t i x < gap ∨ (md dd t i x = gap ∧ b nx ≤ x))) ∧ (0 < i → RAD dd I t i gap)
theorem m1_lt {n : Nat} (h : n < 2 ^ 31) : (-1 : Int32) < nI n := by
  rw [Int32.lt_iff_toInt_lt, nI_toInt h, show (-1 : Int32).toInt = -1 from by decide]
  omega
theorem cei_0 {dd : Nat → Nat → Nat} {I : Nat → Bool} {f : Nat → Int32} {b : Nat → Nat} {k : Nat} {t g : Nat → Nat} (hb : MB f k b) (hI : BK b k I) (hk : 0 < k) : CEI dd I b k 0 0 0 t g (fun _ => false) := by
  refine ⟨hk, Nat.zero_le _, fun i h => absurd h (Nat.not_lt_zero i), ?_, fun j _ => ⟨fun z => by simp at z, fun ⟨l, hl, _⟩ => absurd hl (Nat.not_lt_zero l)⟩, Nat.zero_le _, fun _ => ⟨rfl, fun _ => ⟨rfl, fun x hx => ?_⟩, fun h => absurd h (Nat.lt_irrefl 0)⟩, fun h => absurd h (Nat.lt_irrefl 0)⟩
  · have : ∀ k, cT (fun _ => false) k = 0 := by
      intro k
      induction k with
      | zero => rfl
      | succ k ih => show cT _ k + _ = 0; rw [ih]; rfl
    exact this k
  · obtain ⟨i, hi, e⟩ := (hI x).mp hx
    rw [← e]
    exact mb_le hb (Nat.zero_le i) hi
/-- one centre more -/
theorem cei_step {dd : Nat → Nat → Nat} {I : Nat → Bool} {f gp : Nat → Int32} {b : Nat → Nat} {k i nx gap s : Nat} {t g : Nat → Nat} {tk : Nat → Bool} (hb : MB f k b) (hI : BK b k I) (hz : ∀ x, I x = true → dd x x = 0) (h : CEI dd I b k i nx gap t g tk) (hi : i < k)
    (hgp : GP gp k (setB tk nx) (fun j => md dd (setN t i (b nx)) (i + 1) (b j))) (hs : s < k) (hmx : ∀ j, j < k → gp j ≤ gp s) (hfst : ∀ j, j < s → gp j < gp s) :
    CEI dd I b k (i + 1) s (if setB tk nx s = true then 0 else md dd (setN t i (b nx)) (i + 1) (b s)) (setN t i (b nx)) (setN g i gap) (setB tk nx) := by
  obtain ⟨h1, h2, h3, h4, h5, h6, h7, h8⟩ := h
  obtain ⟨n1, n2, n3⟩ := h7 hi
  have tlow : ∀ j, j < i → setN t i (b nx) j = t j := fun j hj => setN_n (by omega)
  have mlow : ∀ c x, c ≤ i → md dd (setN t i (b nx)) c x = md dd t c x := fun c x hc => md_congr x (fun j hj => tlow j (by omega))
  have htk : ∀ j, j < k → (setB tk nx j = true ↔ ∃ l, l < i + 1 ∧ setN t i (b nx) l = b j) := by
    intro j hj
    unfold setB
    by_cases c : j = nx
    · rw [if_pos c, c]
      exact ⟨fun _ => ⟨i, by omega, setN_s t i (b nx)⟩, fun _ => rfl⟩
    · rw [if_neg c, h5 j hj]
      constructor
      · rintro ⟨l, hl, e⟩
        exact ⟨l, by omega, by rw [tlow l hl]; exact e⟩
      · rintro ⟨l, hl, e⟩
        rcases Nat.lt_or_ge l i with q | q
        · exact ⟨l, q, by rw [← tlow l q]; exact e⟩
        · rw [show l = i by omega, setN_s] at e
          exact absurd (mb_inj hb h1 hj e).symm c
  have hcnt : cT (setB tk nx) k = i + 1 := by rw [cT_set n1, if_pos h1, h4]
  have hnew : ∀ l, l < i → t l ≠ b nx := fun l hl e => by
    have := (h5 nx h1).mpr ⟨l, hl, e⟩
    rw [n1] at this
    cases this
  have hCE : CE dd I (setN t i (b nx)) (setN g i gap) (i + 1) := by
    intro q hq
    rcases Nat.lt_or_ge q i with c | c
    · obtain ⟨a1, a2, a3, a4⟩ := h3 q c
      rw [tlow q c, setN_n (show q ≠ i by omega)]
      refine ⟨a1, fun j hj => by rw [tlow j (by omega)]; exact a2 j hj, a3, fun hq0 => ?_⟩
      obtain ⟨a5, a6⟩ := a4 hq0
      refine ⟨by rw [mlow q _ (by omega)]; exact a5, fun x hx hne => ?_⟩
      rw [mlow q _ (by omega)]
      exact a6 x hx (fun j hj => by rw [← tlow j (by omega)]; exact hne j hj)
    · have e : q = i := by omega
      subst e
      rw [setN_s, setN_s]
      refine ⟨hI.at h1, fun j hj => by rw [tlow j hj]; exact hnew j hj, fun e0 => n2 e0, fun hq0 => ?_⟩
      obtain ⟨a5, a6⟩ := n3 hq0
      refine ⟨by rw [mlow q _ (Nat.le_refl _)]; exact a5, fun x hx hne => ?_⟩
      rw [mlow q _ (Nat.le_refl _)]
      exact a6 x hx (fun j hj => by rw [← tlow j hj]; exact hne j hj)
  have hval : ∀ j, j < k → setB tk nx j = false → gp j = nI (md dd (setN t i (b nx)) (i + 1) (b j)) := fun j hj c => by
    rw [(hgp j hj).1, if_neg (by rw [c]; simp)]
  have hsl : (∃ l, l < k ∧ setB tk nx l = false) → setB tk nx s = false := by
    rintro ⟨l, hl, c⟩
    cases q : setB tk nx s with
    | false => rfl
    | true =>
      have a1 := hmx l hl
      rw [hval l hl c, (hgp s hs).1, if_pos q] at a1
      have a2 := m1_lt (n := md dd (setN t i (b nx)) (i + 1) (b l)) (by have := md_le dd (setN t i (b nx)) (i + 1) (b l); omega)
      exact absurd a1 (Int32.not_le.mpr a2)
  have hb0 : ∀ n, md dd (setN t i (b nx)) (i + 1) (b n) < 2 ^ 31 := fun n => by have := md_le dd (setN t i (b nx)) (i + 1) (b n); omega
  have hzero : ∀ j, j < k → setB tk nx j = true → md dd (setN t i (b nx)) (i + 1) (b j) = 0 := by
    intro j hj c
    obtain ⟨l, hl, e⟩ := (htk j hj).mp c
    have := md_at (dd := dd) (t := setN t i (b nx)) (x := b j) hl
    rw [e, hz _ (hI.at hj)] at this
    omega
  refine ⟨hs, by omega, hCE, hcnt, htk, ?_, fun hik => ?_, fun _ => ?_⟩
  · split
    · omega
    · exact md_le _ _ _ _
  · have hls := hsl (cT_loose (by omega))
    refine ⟨hls, fun e => absurd e (by omega), fun _ => ⟨by rw [if_neg (by rw [hls]; simp)], fun x hx hne => ?_⟩⟩
    rw [if_neg (by rw [hls]; simp)]
    obtain ⟨j, hj, e⟩ := (hI x).mp hx
    subst e
    have hjl : setB tk nx j = false := by
      cases q : setB tk nx j with
      | false => rfl
      | true =>
        obtain ⟨l, hl, e⟩ := (htk j hj).mp q
        exact absurd e (hne l hl)
    have a1 := hmx j hj
    rw [hval j hj hjl, hval s hs hls, nI_leI (hb0 j) (hb0 s)] at a1
    rcases Nat.lt_or_ge j s with q | q
    · have a2 := hfst j q
      rw [hval j hj hjl, hval s hs hls, nI_ltI (hb0 j) (hb0 s)] at a2
      exact Or.inl a2
    · rcases Nat.lt_or_ge (md dd (setN t i (b nx)) (i + 1) (b j)) (md dd (setN t i (b nx)) (i + 1) (b s)) with z | z
      · exact Or.inl z
      · exact Or.inr ⟨by omega, mb_le hb q hj⟩
  · cases hls : setB tk nx s with
    | false =>
      simp only [Bool.false_eq_true, if_false]
      refine ⟨fun x hx => ?_, b s, hI.at hs, rfl⟩
      obtain ⟨j, hj, e⟩ := (hI x).mp hx
      subst e
      cases q : setB tk nx j with
      | true => rw [hzero j hj q]; exact Nat.zero_le _
      | false =>
        have a1 := hmx j hj
        rw [hval j hj q, hval s hs hls, nI_leI (hb0 j) (hb0 s)] at a1
        exact a1
    | true =>
      simp only [if_true]
      refine ⟨fun x hx => ?_, b s, hI.at hs, hzero s hs hls⟩
      obtain ⟨j, hj, e⟩ := (hI x).mp hx
      subst e
      cases q : setB tk nx j with
      | true => rw [hzero j hj q]; exact Nat.le_refl _
      | false =>
        have := hsl ⟨j, hj, q⟩
        rw [hls] at this
        cases this
theorem gp_max {gp : Nat → Int32} {k s : Nat} {tk : Nat → Bool} {ga : Nat → Nat} (h : GP gp k tk ga) (hs : s < k) : (if gp s < nI 0 then nI 0 else gp s) = nI (if tk s = true then 0 else ga s) := by
  obtain ⟨h1, h2⟩ := h s hs
  rw [h1]
  cases c : tk s with
  | true =>
    simp only [if_true]
    rw [if_pos (by decide)]
  | false =>
    simp only [Bool.false_eq_true, if_false]
    rw [if_neg (nI_nlt (Nat.zero_le _) (by omega))]

set_option maxHeartbeats 4000000 in
set_option maxRecDepth 100000 in
theorem c_X1_farthestLoose (E : Ev) (c : Nat) (w : Nat) (gp : Nat → Int32) (m : Nat) (a : Nat) (f : Nat → Int32) (k : Nat) (d : Nat) (b : Nat → Nat) (hb : MB f k b) (hk0 : 1 ≤ k) : CTi E yX1_farthestLoose (wq yX1_farthestLoose cX1_farthestLoose 3 (some .int)) (rmk 1 20) [.ref c] [ob c 1 [.ref m, .ref d, .ref w], ob m 5 [.ref a, .int (nI k)], ia E a 60 f, ia E w 60 gp] (fun (r : Int32) (u : Nat) => r = nI u ∧ u < k ∧ (∀ j, j < k → gp j ≤ gp u) ∧ ∀ j, j < u → gp j < gp u) (fun (u : Nat) => [ob c 1 [.ref m, .ref d, .ref w], ob m 5 [.ref a, .int (nI k)], ia E a 60 f, ia E w 60 gp]) := by
  refine CTi.of (by decide) (Nat.le_of_ble_eq_true rfl) (fun X F R => ?_)
  refine g_lv [0] [(0, .ref c)] rfl ?_
  have hk := hb.1
  refine g_iconst F (nI 0) (by decide) dX1_farthestLoose_0 ?_
  refine g_istore_n F 1 [(0, .ref c), (1, .int (nI 0))] [1, 0] dX1_farthestLoose_1 rfl (by decide) rfl ?_
  refine g_iconst F (nI 1) (by decide) dX1_farthestLoose_2 ?_
  refine g_istore_n F 2 [(0, .ref c), (1, .int (nI 0)), (2, .int (nI 1))] [1, 2, 0] dX1_farthestLoose_3 rfl (by decide) rfl ?_
  have lp_4 : ∀ (n_4 : Nat) (i : Nat) (s : Nat), (1 ≤ i) → (i ≤ k) → (s < i) → (∀ j, j < i → gp j ≤ gp s) → (∀ j, j < s → gp j < gp s) → k - i < n_4 → GW E X 0 0 [ob c 1 [.ref m, .ref d, .ref w], ob m 5 [.ref a, .int (nI k)], ia E a 60 f, ia E w 60 gp] [(0, .ref c), (1, .int (nI s)), (2, .int (nI i))] 4 [] := by
    intro n_4
    induction n_4 with
    | zero => intro i s hi1 hi hs hm hm2 hm_4; exact absurd hm_4 (Nat.not_lt_zero _)
    | succ n_4 ih_4 =>
      intro i s hi1 hi hs hm hm2 hm_4
      refine g_iload_n F 2 rfl dX1_farthestLoose_4 ?_
      refine g_aload_n F 0 rfl dX1_farthestLoose_5 ?_
      refine g_get F 1 0 0 inX1 rfl rfl (by decide) tw_fl_X1_15 rfl dX1_farthestLoose_6 ?_
      refine g_rVi F (wr := [ob c 1 [.ref m, .ref d, .ref w], ia E w 60 gp]) [.int (nI i)] (c_X5_size E m a f k ) (gi_V tw_ml_X1_59 tw_im_X5_size tw_se_X5_size tw_in_X5 tw_co_X5_size) 0 rfl (by decide) ⟨rfl, rfl, by decide, by decide, Nat.zero_le _, Nat.zero_le _⟩ 5 0 rfl rfl [1, 2] [0, 3] [0, 2, 3, 1] rfl rfl (by decide) rfl rfl (Nat.le_of_ble_eq_true rfl) dX1_farthestLoose_9 ?_
      refine n_icmp_ge F 38 dX1_farthestLoose_12 (by decide) (by omega) (by omega) (fun c_12 => ?_) (fun c_12 => ?_)
      · refine g_iload_n F 1 rfl dX1_farthestLoose_38 ?_
        exact R _ s _ _ dX1_farthestLoose_39 (⟨rfl, by omega, fun j hj => hm j (by omega), hm2⟩)
      · refine g_aload_n F 0 rfl dX1_farthestLoose_15 ?_
        refine g_get F 1 0 2 inX1 rfl rfl (by decide) tw_fl_X1_9 rfl dX1_farthestLoose_16 ?_
        refine g_iload_n F 2 rfl dX1_farthestLoose_19 ?_
        refine g_iald F 3 rfl (by omega) (by decide) dX1_farthestLoose_20 ?_
        refine g_aload_n F 0 rfl dX1_farthestLoose_21 ?_
        refine g_get F 1 0 2 inX1 rfl rfl (by decide) tw_fl_X1_9 rfl dX1_farthestLoose_22 ?_
        refine g_iload_n F 1 rfl dX1_farthestLoose_25 ?_
        refine g_iald F 3 rfl (by omega) (by decide) dX1_farthestLoose_26 ?_
        refine g_icmp_le F 32 dX1_farthestLoose_27 (by decide) (fun c_27 => ?_) (fun c_27 => ?_)
        · refine g_iinc F (nI (i + 1)) 2 2 [(0, .ref c), (1, .int (nI s)), (2, .int (nI (i + 1)))] [1, 2, 0] dX1_farthestLoose_32 rfl (n_inc i) (by decide) rfl ?_
          refine g_goto F 4 dX1_farthestLoose_35 (by decide) ?_
          exact ih_4 (i + 1) s (by omega) (by omega) (by omega) (lt_s hm c_27) (hm2) (by omega)
        · refine g_iload_n F 2 rfl dX1_farthestLoose_30 ?_
          refine g_istore_n F 1 [(0, .ref c), (1, .int (nI i)), (2, .int (nI i))] [1, 0, 2] dX1_farthestLoose_31 rfl (by decide) rfl ?_
          refine g_iinc F (nI (i + 1)) 2 2 [(0, .ref c), (1, .int (nI i)), (2, .int (nI (i + 1)))] [1, 2, 0] dX1_farthestLoose_32 rfl (n_inc i) (by decide) rfl ?_
          refine g_goto F 4 dX1_farthestLoose_35 (by decide) ?_
          exact ih_4 (i + 1) i (by omega) (by omega) (by omega) (lt_s (fun j hj => Int32.le_of_lt (Int32.lt_of_le_of_lt (hm j hj) (Int32.not_le.mp c_27))) (Int32.le_refl _)) (fun j hj => Int32.lt_of_le_of_lt (hm j hj) (Int32.not_le.mp c_27)) (by omega)
  exact lp_4 _ 1 0 (by omega) (by omega) (by omega) (fun j hj => by rw [show j = 0 by omega]; exact Int32.le_refl _) (fun j hj => absurd hj (Nat.not_lt_zero j)) (Nat.lt_succ_self _)

set_option maxHeartbeats 4000000 in
set_option maxRecDepth 100000 in
theorem c_X1_closeGaps (E : Ev) (c : Nat) (w : Nat) (gp : Nat → Int32) (m : Nat) (a : Nat) (f : Nat → Int32) (k : Nat) (d : Nat) (ro : Nat) (tb : Nat) (ka : Nat) (kn : Nat → Int32) (kd : Nat) (b : Nat → Nat) (tk : Nat → Bool) (ga : Nat → Nat) (dd : Nat → Nat → Nat) (x : Nat) (hb : MB f k b) (hx : x < 60) (hg : GP gp k tk ga) (hd : ∀ i, i < k → kn (x * 60 + b i) = nI (dd x (b i)) ∧ dd x (b i) ≤ 100000) : CTv E yX1_closeGaps (wq yX1_closeGaps cX1_closeGaps 3 none) (rmk 1 22) [.ref c, .int (nI x)] [ob c 1 [.ref m, .ref d, .ref w], ob m 5 [.ref a, .int (nI k)], ia E a 60 f, ob d 3 [.ref ro, .ref tb, .ref ka, .int (nI kd)], ia E ka 3600 kn, ia E w 60 gp] (fun (u : (Nat → Int32)) => GP u k tk (fun j => Nat.min (ga j) (dd x (b j)))) (fun (u : (Nat → Int32)) => [ob c 1 [.ref m, .ref d, .ref w], ob m 5 [.ref a, .int (nI k)], ia E a 60 f, ob d 3 [.ref ro, .ref tb, .ref ka, .int (nI kd)], ia E ka 3600 kn, ia E w 60 u]) := by
  refine CTv.of (by decide) (Nat.le_of_ble_eq_true rfl) (fun X F R => ?_)
  refine g_lv [0, 1] [(0, .ref c), (1, .int (nI x))] rfl ?_
  have hk := hb.1
  have hmn := fun j => (show Nat.min (ga j) (dd x (b j)) ≤ ga j from Nat.min_le_left _ _)
  refine g_iconst F (nI 0) (by decide) dX1_closeGaps_0 ?_
  refine g_istore_n F 2 [(0, .ref c), (1, .int (nI x)), (2, .int (nI 0))] [1, 2, 0] dX1_closeGaps_1 rfl (by decide) rfl ?_
  have lp_2 : ∀ (n_2 : Nat) (i : Nat) (g : Nat → Int32), (i ≤ k) → (∀ j, j < i → g j = (if tk j = true then -1 else nI (Nat.min (ga j) (dd x (b j))))) → (∀ j, i ≤ j → g j = gp j) → k - i < n_2 → GW E X 0 0 [ob c 1 [.ref m, .ref d, .ref w], ob m 5 [.ref a, .int (nI k)], ia E a 60 f, ob d 3 [.ref ro, .ref tb, .ref ka, .int (nI kd)], ia E ka 3600 kn, ia E w 60 g] [(0, .ref c), (1, .int (nI x)), (2, .int (nI i))] 2 [] := by
    intro n_2
    induction n_2 with
    | zero => intro i g hi g1 g2 hm_2; exact absurd hm_2 (Nat.not_lt_zero _)
    | succ n_2 ih_2 =>
      intro i g hi g1 g2 hm_2
      refine g_iload_n F 2 rfl dX1_closeGaps_2 ?_
      refine g_aload_n F 0 rfl dX1_closeGaps_3 ?_
      refine g_get F 1 0 0 inX1 rfl rfl (by decide) tw_fl_X1_15 rfl dX1_closeGaps_4 ?_
      refine g_rVi F (wr := [ob c 1 [.ref m, .ref d, .ref w], ob d 3 [.ref ro, .ref tb, .ref ka, .int (nI kd)], ia E ka 3600 kn, ia E w 60 g]) [.int (nI i)] (c_X5_size E m a f k ) (gi_V tw_ml_X1_59 tw_im_X5_size tw_se_X5_size tw_in_X5 tw_co_X5_size) 0 rfl (by decide) ⟨rfl, rfl, by decide, by decide, Nat.zero_le _, Nat.zero_le _⟩ 5 0 rfl rfl [1, 2] [0, 3, 4, 5] [0, 4, 5, 1, 2, 3] rfl rfl (by decide) rfl rfl (Nat.le_of_ble_eq_true rfl) dX1_closeGaps_7 ?_
      refine n_icmp_ge F 60 dX1_closeGaps_10 (by decide) (by omega) (by omega) (fun c_10 => ?_) (fun c_10 => ?_)
      · exact R g _ _ dX1_closeGaps_60 (fun j hj => ⟨g1 j (by omega), Nat.le_trans (hmn j) (hg j hj).2⟩)
      · refine g_aload_n F 0 rfl dX1_closeGaps_13 ?_
        refine g_get F 1 0 2 inX1 rfl rfl (by decide) tw_fl_X1_9 rfl dX1_closeGaps_14 ?_
        refine g_iload_n F 2 rfl dX1_closeGaps_17 ?_
        refine g_iald F 5 rfl (by omega) (by decide) dX1_closeGaps_18 ?_
        refine g_iconst F (-1) (by decide) dX1_closeGaps_19 ?_
        refine g_icmp_eq F 54 dX1_closeGaps_20 (by decide) (fun c_20 => ?_) (fun c_20 => ?_)
        · refine g_iinc F (nI (i + 1)) 2 2 [(0, .ref c), (1, .int (nI x)), (2, .int (nI (i + 1)))] [1, 2, 0] dX1_closeGaps_54 rfl (n_inc i) (by decide) rfl ?_
          refine g_goto F 2 dX1_closeGaps_57 (by decide) ?_
          exact ih_2 (i + 1) g (by omega) (lt_s g1 (by
          have q := (hg i c_10).1
          rw [← g2 i (Nat.le_refl _), c_20] at q
          by_cases z : tk i = true
          · rw [if_pos z]; exact c_20
          · rw [if_neg z] at q
            exact absurd q.symm (nI_m1 (by have := (hg i c_10).2; omega)))) (fun j h => g2 j (by omega)) (by omega)
        · have htf : ¬ tk i = true := fun q => c_20 (by rw [g2 i (Nat.le_refl _), (hg i c_10).1, if_pos q])
          refine g_aload_n F 0 rfl dX1_closeGaps_23 ?_
          refine g_get F 1 0 2 inX1 rfl rfl (by decide) tw_fl_X1_9 rfl dX1_closeGaps_24 ?_
          refine g_iload_n F 2 rfl dX1_closeGaps_27 ?_
          refine g_aload_n F 0 rfl dX1_closeGaps_28 ?_
          refine g_get F 1 0 2 inX1 rfl rfl (by decide) tw_fl_X1_9 rfl dX1_closeGaps_29 ?_
          refine g_iload_n F 2 rfl dX1_closeGaps_32 ?_
          refine g_iald F 5 rfl (by omega) (by decide) dX1_closeGaps_33 ?_
          refine g_top (nI (ga i)) (by rw [g2 i (Nat.le_refl _), (hg i c_10).1, if_neg htf]) ?_
          refine g_aload_n F 0 rfl dX1_closeGaps_34 ?_
          refine g_get F 1 0 1 inX1 rfl rfl (by decide) tw_fl_X1_19 rfl dX1_closeGaps_35 ?_
          refine g_iload_n F 1 rfl dX1_closeGaps_38 ?_
          refine g_aload_n F 0 rfl dX1_closeGaps_39 ?_
          refine g_get F 1 0 0 inX1 rfl rfl (by decide) tw_fl_X1_15 rfl dX1_closeGaps_40 ?_
          refine g_iload_n F 2 rfl dX1_closeGaps_43 ?_
          refine g_rVi F (wr := [ob c 1 [.ref m, .ref d, .ref w], ob d 3 [.ref ro, .ref tb, .ref ka, .int (nI kd)], ia E ka 3600 kn, ia E w 60 g]) [.int (nI x), .ref d, .int (nI (ga i)), .int (nI i), .ref w] (c_X5_at E m a f k b i (fun i hi => (hb.2.1 i hi).1) (by omega) (by omega)) (gi_V tw_ml_X1_35 tw_im_X5_at tw_se_X5_at tw_in_X5 tw_co_X5_at) 1 rfl (by decide) ⟨rfl, rfl, by decide, by decide, Nat.zero_le _, Nat.zero_le _⟩ 5 0 rfl rfl [1, 2] [0, 3, 4, 5] [0, 4, 5, 1, 2, 3] rfl rfl (by decide) rfl rfl (Nat.le_of_ble_eq_true rfl) dX1_closeGaps_44 ?_
          refine g_rVi F (wr := [ob c 1 [.ref m, .ref d, .ref w], ob m 5 [.ref a, .int (nI k)], ia E a 60 f, ia E w 60 g]) [.int (nI (ga i)), .int (nI i), .ref w] (c_X3_at E d ro tb ka kn kd dd x (b i) (hx) ((hb.2.1 i (by omega)).2) ((hd i (by omega)).1)) (gi_V tw_ml_X1_62 tw_im_X3_at tw_se_X3_at tw_in_X3 tw_co_X3_at) 2 rfl (by decide) ⟨rfl, rfl, by decide, by decide, Nat.zero_le _, Nat.zero_le _⟩ 3 0 rfl rfl [3, 4] [0, 1, 2, 5] [0, 1, 2, 4, 5, 3] rfl rfl (by decide) rfl rfl (Nat.le_of_ble_eq_true rfl) dX1_closeGaps_47 ?_
          refine g_mmin F tw_ml_X1_66 (by decide) (Nat.le_of_ble_eq_true rfl) (Nat.zero_le _) (Nat.zero_le _) dX1_closeGaps_50 ?_
          refine g_top _ (n_min (ga i) (dd x (b i)) (by have := (hg i c_10).2; omega) (by have := (hd i c_10).2; omega)) ?_
          refine g_iast F 5 [ob c 1 [.ref m, .ref d, .ref w], ob m 5 [.ref a, .int (nI k)], ia E a 60 f, ob d 3 [.ref ro, .ref tb, .ref ka, .int (nI kd)], ia E ka 3600 kn, ia E w 60 (upd g i (nI (Nat.min (ga i) (dd x (b i)))))] rfl (by omega) (by decide) rfl dX1_closeGaps_53 ?_
          refine g_iinc F (nI (i + 1)) 2 2 [(0, .ref c), (1, .int (nI x)), (2, .int (nI (i + 1)))] [1, 2, 0] dX1_closeGaps_54 rfl (n_inc i) (by decide) rfl ?_
          refine g_goto F 2 dX1_closeGaps_57 (by decide) ?_
          exact ih_2 (i + 1) (upd g i (nI (Nat.min (ga i) (dd x (b i))))) (by omega) (lt_s (fun j hj => (pk_un (by omega)).trans (g1 j hj)) (by rw [pk_us, if_neg htf])) (fun j h => (pk_un (by omega)).trans (g2 j (by omega))) (by omega)
  exact lp_2 _ 0 gp (by omega) (fun j h => absurd h (Nat.not_lt_zero j)) (fun _ _ => rfl) (Nat.lt_succ_self _)

set_option maxHeartbeats 4000000 in
set_option maxRecDepth 100000 in
theorem c_X1_take (E : Ev) (c : Nat) (w : Nat) (gp : Nat → Int32) (m : Nat) (a : Nat) (f : Nat → Int32) (k : Nat) (d : Nat) (ro : Nat) (tb : Nat) (ka : Nat) (kn : Nat → Int32) (kd : Nat) (rs : Nat) (ra : Nat) (rb : Nat) (rf : Nat → Int32) (rg : Nat → Int32) (rk : Nat) (b : Nat → Nat) (I : Nat → Bool) (dd : Nat → Nat → Nat) (kk : Nat) (hb : MB f k b) (hI : BK b k I) (hk1 : 1 ≤ kk) (hk2 : kk ≤ k) (hd : ∀ i j, i < k → j < k → kn (b i * 60 + b j) = nI (dd (b i) (b j)) ∧ dd (b i) (b j) ≤ 100000) (hz : ∀ x, I x = true → dd x x = 0) : CTi E yX1_take (wq yX1_take cX1_take 6 (some .int)) (rmk 2 44) [.ref c, .int (nI kk), .ref rs] [ob c 1 [.ref m, .ref d, .ref w], ob m 5 [.ref a, .int (nI k)], ia E a 60 f, ob d 3 [.ref ro, .ref tb, .ref ka, .int (nI kd)], ia E ka 3600 kn, ob rs 7 [.ref ra, .ref rb, .int (nI rk)], ia E ra 60 rf, ia E rb 60 rg, ia E w 60 gp] (fun (r : Int32) (u : (Nat → Int32) × (Nat → Int32) × (Nat → Int32)) => ∃ (t g : Nat → Nat) (ro : Nat), r = nI ro ∧ CE dd I t g kk ∧ RAD dd I t kk ro ∧ ∀ j, j < kk → u.2.1 j = nI (t j) ∧ u.2.2 j = nI (g j)) (fun (u : (Nat → Int32) × (Nat → Int32) × (Nat → Int32)) => [ob c 1 [.ref m, .ref d, .ref w], ob m 5 [.ref a, .int (nI k)], ia E a 60 f, ob d 3 [.ref ro, .ref tb, .ref ka, .int (nI kd)], ia E ka 3600 kn, ob rs 7 [.ref ra, .ref rb, .int (nI kk)], ia E ra 60 u.2.1, ia E rb 60 u.2.2, ia E w 60 u.1]) := by
  refine CTi.of (by decide) (Nat.le_of_ble_eq_true rfl) (fun X F R => ?_)
  refine g_lv [0, 1, 2] [(0, .ref c), (1, .int (nI kk)), (2, .ref rs)] rfl ?_
  have hk := hb.1
  refine g_aload_n F 2 rfl dX1_take_0 ?_
  refine g_cVv F (wr := [ob c 1 [.ref m, .ref d, .ref w], ob m 5 [.ref a, .int (nI k)], ia E a 60 f, ob d 3 [.ref ro, .ref tb, .ref ka, .int (nI kd)], ia E ka 3600 kn, ia E w 60 gp]) [] (c_X7_clear E rs ra rb rf rg rk ) (gi_V tw_ml_X1_23 tw_im_X7_clear tw_se_X7_clear tw_in_X7 tw_co_X7_clear) 0 rfl (by decide) ⟨rfl, rfl, by decide, by decide, Nat.zero_le _, Nat.zero_le _⟩ 7 0 rfl rfl [5, 6, 7] [0, 1, 2, 3, 4, 8] [0, 1, 2, 3, 4, 6, 7, 8, 5] (fun u => [ob c 1 [.ref m, .ref d, .ref w], ob m 5 [.ref a, .int (nI k)], ia E a 60 f, ob d 3 [.ref ro, .ref tb, .ref ka, .int (nI kd)], ia E ka 3600 kn, ob rs 7 [.ref ra, .ref rb, .int (nI 0)], ia E ra 60 rf, ia E rb 60 rg, ia E w 60 gp]) rfl rfl (by decide) (fun _ => rfl) rfl (Nat.le_of_ble_eq_true rfl) dX1_take_1 (fun u hu_1 => ?_)
  refine g_aload_n F 0 rfl dX1_take_4 ?_
  refine g_get F 1 0 2 inX1 rfl rfl (by decide) tw_fl_X1_9 rfl dX1_take_5 ?_
  refine g_ldc F tw_cn_X1_28 dX1_take_8 ?_
  refine g_top (nI 100000) (by decide) ?_
  refine g_cSv F (wr := [ob c 1 [.ref m, .ref d, .ref w], ob m 5 [.ref a, .int (nI k)], ia E a 60 f, ob d 3 [.ref ro, .ref tb, .ref ka, .int (nI kd)], ia E ka 3600 kn, ob rs 7 [.ref ra, .ref rb, .int (nI 0)], ia E ra 60 rf, ia E rb 60 rg]) [] (c_J7_fill_53178 E w 60 gp (nI 100000) (by decide)) ⟨tw_ml_X1_29, tw_sm_J7_fill_53178, tw_in_J7, tw_co_J7_fill_53178⟩ 2 rfl (by decide) ⟨rfl, rfl, by decide, by decide, Nat.zero_le _, Nat.zero_le _⟩ [8] [0, 1, 2, 3, 4, 5, 6, 7] [0, 1, 2, 3, 4, 5, 6, 7, 8] (fun u => [ob c 1 [.ref m, .ref d, .ref w], ob m 5 [.ref a, .int (nI k)], ia E a 60 f, ob d 3 [.ref ro, .ref tb, .ref ka, .int (nI kd)], ia E ka 3600 kn, ob rs 7 [.ref ra, .ref rb, .int (nI 0)], ia E ra 60 rf, ia E rb 60 rg, ia E w 60 (fl gp 60 (nI 100000))]) rfl rfl (by decide) (fun _ => rfl) rfl (Nat.le_of_ble_eq_true rfl) dX1_take_10 (fun u hu_10 => ?_)
  refine g_iconst F (nI 0) (by decide) dX1_take_13 ?_
  refine g_istore_n F 3 [(0, .ref c), (1, .int (nI kk)), (2, .ref rs), (3, .int (nI 0))] [1, 2, 3, 0] dX1_take_14 rfl (by decide) rfl ?_
  refine g_iconst F (nI 0) (by decide) dX1_take_15 ?_
  refine g_istore F 4 [(0, .ref c), (1, .int (nI kk)), (2, .ref rs), (3, .int (nI 0)), (4, .int (nI 0))] [1, 2, 3, 4, 0] dX1_take_16 (by decide) rfl ?_
  refine g_iconst F (nI 0) (by decide) dX1_take_18 ?_
  refine g_istore F 5 [(0, .ref c), (1, .int (nI kk)), (2, .ref rs), (3, .int (nI 0)), (4, .int (nI 0)), (5, .int (nI 0))] [1, 2, 3, 4, 5, 0] dX1_take_19 (by decide) rfl ?_
  have lp_21 : ∀ (n_21 : Nat) (i : Nat) (nx : Nat) (gap : Nat) (gg : Nat → Int32) (r1 : Nat → Int32) (r2 : Nat → Int32) (t : Nat → Nat) (g : Nat → Nat) (tk : Nat → Bool), (i ≤ kk) → (CEI dd I b k i nx gap t g tk) → (GP gg k tk (fun j => md dd t i (b j))) → (∀ j, j < i → r1 j = nI (t j) ∧ r2 j = nI (g j)) → kk - i < n_21 → GW E X 0 0 [ob c 1 [.ref m, .ref d, .ref w], ob m 5 [.ref a, .int (nI k)], ia E a 60 f, ob d 3 [.ref ro, .ref tb, .ref ka, .int (nI kd)], ia E ka 3600 kn, ob rs 7 [.ref ra, .ref rb, .int (nI i)], ia E ra 60 r1, ia E rb 60 r2, ia E w 60 gg] [(0, .ref c), (1, .int (nI kk)), (2, .ref rs), (3, .int (nI nx)), (4, .int (nI gap)), (5, .int (nI i))] 21 [] := by
    intro n_21
    induction n_21 with
    | zero => intro i nx gap gg r1 r2 t g tk hi hcei hgp hr hm_21; exact absurd hm_21 (Nat.not_lt_zero _)
    | succ n_21 ih_21 =>
      intro i nx gap gg r1 r2 t g tk hi hcei hgp hr hm_21
      refine g_iload F 5 rfl dX1_take_21 ?_
      refine g_iload_n F 1 rfl dX1_take_23 ?_
      refine n_icmp_ge F 83 dX1_take_24 (by decide) (by omega) (by omega) (fun c_24 => ?_) (fun c_24 => ?_)
      · have hii : i = kk := by omega
        subst hii
        refine g_iload F 4 rfl dX1_take_83 ?_
        exact R _ ((gg, r1, r2)) _ _ dX1_take_85 (by (try dsimp only); exact (⟨t, g, gap, rfl, hcei.2.2.1, hcei.2.2.2.2.2.2.2 (by omega), hr⟩))
      · have hnx := hcei.1
        refine g_aload_n F 2 rfl dX1_take_27 ?_
        refine g_aload_n F 0 rfl dX1_take_28 ?_
        refine g_get F 1 0 0 inX1 rfl rfl (by decide) tw_fl_X1_15 rfl dX1_take_29 ?_
        refine g_iload_n F 3 rfl dX1_take_32 ?_
        refine g_rVi F (wr := [ob c 1 [.ref m, .ref d, .ref w], ob d 3 [.ref ro, .ref tb, .ref ka, .int (nI kd)], ia E ka 3600 kn, ob rs 7 [.ref ra, .ref rb, .int (nI i)], ia E ra 60 r1, ia E rb 60 r2, ia E w 60 gg]) [.ref rs] (c_X5_at E m a f k b nx (fun i hi => (hb.2.1 i hi).1) (by omega) (by omega)) (gi_V tw_ml_X1_35 tw_im_X5_at tw_se_X5_at tw_in_X5 tw_co_X5_at) 1 rfl (by decide) ⟨rfl, rfl, by decide, by decide, Nat.zero_le _, Nat.zero_le _⟩ 5 0 rfl rfl [1, 2] [0, 3, 4, 5, 6, 7, 8] [0, 7, 8, 1, 2, 3, 4, 5, 6] rfl rfl (by decide) rfl rfl (Nat.le_of_ble_eq_true rfl) dX1_take_33 ?_
        refine g_iload F 4 rfl dX1_take_36 ?_
        refine g_cVv F (wr := [ob c 1 [.ref m, .ref d, .ref w], ob m 5 [.ref a, .int (nI k)], ia E a 60 f, ob d 3 [.ref ro, .ref tb, .ref ka, .int (nI kd)], ia E ka 3600 kn, ia E w 60 gg]) [] (c_X7_append E rs ra rb r1 r2 i (nI (b nx)) (nI gap) (by omega)) (gi_V tw_ml_X1_41 tw_im_X7_append tw_se_X7_append tw_in_X7 tw_co_X7_append) 2 rfl (by decide) ⟨rfl, rfl, by decide, by decide, Nat.zero_le _, Nat.zero_le _⟩ 7 0 rfl rfl [5, 6, 7] [0, 1, 2, 3, 4, 8] [0, 1, 2, 3, 4, 6, 7, 8, 5] (fun u => [ob c 1 [.ref m, .ref d, .ref w], ob m 5 [.ref a, .int (nI k)], ia E a 60 f, ob d 3 [.ref ro, .ref tb, .ref ka, .int (nI kd)], ia E ka 3600 kn, ob rs 7 [.ref ra, .ref rb, .int (nI (i + 1))], ia E ra 60 (upd r1 i (nI (b nx))), ia E rb 60 (upd r2 i (nI gap)), ia E w 60 gg]) rfl rfl (by decide) (fun _ => rfl) rfl (Nat.le_of_ble_eq_true rfl) dX1_take_38 (fun u hu_38 => ?_)
        refine g_aload_n F 0 rfl dX1_take_41 ?_
        refine g_get F 1 0 2 inX1 rfl rfl (by decide) tw_fl_X1_9 rfl dX1_take_42 ?_
        refine g_iload_n F 3 rfl dX1_take_45 ?_
        refine g_iconst F (-1) (by decide) dX1_take_46 ?_
        refine g_iast F 8 [ob c 1 [.ref m, .ref d, .ref w], ob m 5 [.ref a, .int (nI k)], ia E a 60 f, ob d 3 [.ref ro, .ref tb, .ref ka, .int (nI kd)], ia E ka 3600 kn, ob rs 7 [.ref ra, .ref rb, .int (nI (i + 1))], ia E ra 60 (upd r1 i (nI (b nx))), ia E rb 60 (upd r2 i (nI gap)), ia E w 60 (upd gg nx (-1))] rfl (by omega) (by decide) rfl dX1_take_47 ?_
        refine g_aload_n F 0 rfl dX1_take_48 ?_
        refine g_aload_n F 0 rfl dX1_take_49 ?_
        refine g_get F 1 0 0 inX1 rfl rfl (by decide) tw_fl_X1_15 rfl dX1_take_50 ?_
        refine g_iload_n F 3 rfl dX1_take_53 ?_
        refine g_rVi F (wr := [ob c 1 [.ref m, .ref d, .ref w], ob d 3 [.ref ro, .ref tb, .ref ka, .int (nI kd)], ia E ka 3600 kn, ob rs 7 [.ref ra, .ref rb, .int (nI (i + 1))], ia E ra 60 (upd r1 i (nI (b nx))), ia E rb 60 (upd r2 i (nI gap)), ia E w 60 (upd gg nx (-1))]) [.ref c] (c_X5_at E m a f k b nx (fun i hi => (hb.2.1 i hi).1) (by omega) (by omega)) (gi_V tw_ml_X1_35 tw_im_X5_at tw_se_X5_at tw_in_X5 tw_co_X5_at) 1 rfl (by decide) ⟨rfl, rfl, by decide, by decide, Nat.zero_le _, Nat.zero_le _⟩ 5 0 rfl rfl [1, 2] [0, 3, 4, 5, 6, 7, 8] [0, 7, 8, 1, 2, 3, 4, 5, 6] rfl rfl (by decide) rfl rfl (Nat.le_of_ble_eq_true rfl) dX1_take_54 ?_
        refine g_cVv F (wr := [ob rs 7 [.ref ra, .ref rb, .int (nI (i + 1))], ia E ra 60 (upd r1 i (nI (b nx))), ia E rb 60 (upd r2 i (nI gap))]) [] (c_X1_closeGaps E c w (upd gg nx (-1)) m a f k d ro tb ka kn kd b (setB tk nx) (fun j => md dd t i (b j)) dd (b nx) (hb) ((hb.2.1 nx hnx).2) (fun j hj => ⟨by
          unfold setB upd
          by_cases q : j = nx
          · rw [if_pos q, if_pos q]; rfl
          · rw [if_neg q, if_neg q]; exact (hgp j hj).1, md_le _ _ _ _⟩) (fun j hj => hd nx j hnx hj)) (gi_V tw_ml_X1_45 tw_im_X1_closeGaps tw_se_X1_closeGaps tw_in_X1 tw_co_X1_closeGaps) 1 rfl (by decide) ⟨rfl, rfl, by decide, by decide, Nat.zero_le _, Nat.zero_le _⟩ 1 0 rfl rfl [0, 1, 2, 3, 4, 8] [5, 6, 7] [3, 4, 5, 6, 7, 0, 1, 2, 8] (fun u => [ob c 1 [.ref m, .ref d, .ref w], ob m 5 [.ref a, .int (nI k)], ia E a 60 f, ob d 3 [.ref ro, .ref tb, .ref ka, .int (nI kd)], ia E ka 3600 kn, ob rs 7 [.ref ra, .ref rb, .int (nI (i + 1))], ia E ra 60 (upd r1 i (nI (b nx))), ia E rb 60 (upd r2 i (nI gap)), ia E w 60 u]) rfl rfl (by decide) (fun _ => rfl) rfl (Nat.le_of_ble_eq_true rfl) dX1_take_57 (fun u hu_57 => ?_)
        revert hu_57; revert u; intro gp2_57 hu_57
        have hu_57 : GP gp2_57 k (setB tk nx) (fun j => md dd (setN t i (b nx)) (i + 1) (b j)) := fun j hj => by
          have q := hu_57 j hj
          have e : Nat.min (md dd t i (b j)) (dd (b nx) (b j)) = md dd (setN t i (b nx)) (i + 1) (b j) := by
            show _ = Nat.min _ _
            rw [setN_s, md_congr (b j) (fun l hl => setN_n (t := t) (x := b nx) (show l ≠ i by omega))]
          simp only at q ⊢
          rw [e] at q
          exact q
        refine g_aload_n F 0 rfl dX1_take_60 ?_
        refine g_cVi F (wr := [ob d 3 [.ref ro, .ref tb, .ref ka, .int (nI kd)], ia E ka 3600 kn, ob rs 7 [.ref ra, .ref rb, .int (nI (i + 1))], ia E ra 60 (upd r1 i (nI (b nx))), ia E rb 60 (upd r2 i (nI gap))]) [] (c_X1_farthestLoose E c w gp2_57 m a f k d b (hb) (by omega)) (gi_V tw_ml_X1_49 tw_im_X1_farthestLoose tw_se_X1_farthestLoose tw_in_X1 tw_co_X1_farthestLoose) 0 rfl (by decide) ⟨rfl, rfl, by decide, by decide, Nat.zero_le _, Nat.zero_le _⟩ 1 0 rfl rfl [0, 1, 2, 8] [3, 4, 5, 6, 7] [5, 6, 7, 0, 1, 2, 3, 4, 8] (fun u => [ob c 1 [.ref m, .ref d, .ref w], ob m 5 [.ref a, .int (nI k)], ia E a 60 f, ob d 3 [.ref ro, .ref tb, .ref ka, .int (nI kd)], ia E ka 3600 kn, ob rs 7 [.ref ra, .ref rb, .int (nI (i + 1))], ia E ra 60 (upd r1 i (nI (b nx))), ia E rb 60 (upd r2 i (nI gap)), ia E w 60 gp2_57]) rfl rfl (by decide) (fun _ => rfl) rfl (Nat.le_of_ble_eq_true rfl) dX1_take_61 (fun r_61 u hu_61 => ?_)
        revert hu_61; revert u; intro s_61 hu_61
        obtain ⟨rfl, hs2, hs3, hs4⟩ := hu_61
        refine g_istore_n F 3 [(0, .ref c), (1, .int (nI kk)), (2, .ref rs), (3, .int (nI s_61)), (4, .int (nI gap)), (5, .int (nI i))] [1, 2, 3, 0, 4, 5] dX1_take_64 rfl (by decide) rfl ?_
        have hcei2 := cei_step hb hI hz hcei (by omega) hu_57 hs2 hs3 hs4
        refine g_aload_n F 0 rfl dX1_take_65 ?_
        refine g_get F 1 0 2 inX1 rfl rfl (by decide) tw_fl_X1_9 rfl dX1_take_66 ?_
        refine g_iload_n F 3 rfl dX1_take_69 ?_
        refine g_iald F 8 rfl (by omega) (by decide) dX1_take_70 ?_
        refine g_iconst F (nI 0) (by decide) dX1_take_71 ?_
        refine g_mmax F tw_ml_X1_53 (by decide) (Nat.le_of_ble_eq_true rfl) (Nat.zero_le _) (Nat.zero_le _) dX1_take_72 ?_
        refine g_top (nI (if setB tk nx s_61 = true then 0 else md dd (setN t i (b nx)) (i + 1) (b s_61))) (gp_max hu_57 hs2) ?_
        refine g_istore F 4 [(0, .ref c), (1, .int (nI kk)), (2, .ref rs), (3, .int (nI s_61)), (4, .int (nI (if setB tk nx s_61 = true then 0 else md dd (setN t i (b nx)) (i + 1) (b s_61)))), (5, .int (nI i))] [1, 2, 3, 4, 0, 5] dX1_take_75 (by decide) rfl ?_
        refine g_iinc F (nI (i + 1)) 5 5 [(0, .ref c), (1, .int (nI kk)), (2, .ref rs), (3, .int (nI s_61)), (4, .int (nI (if setB tk nx s_61 = true then 0 else md dd (setN t i (b nx)) (i + 1) (b s_61)))), (5, .int (nI (i + 1)))] [1, 2, 3, 4, 5, 0] dX1_take_77 rfl (n_inc i) (by decide) rfl ?_
        refine g_goto F 21 dX1_take_80 (by decide) ?_
        exact ih_21 (i + 1) s_61 (if setB tk nx s_61 = true then 0 else md dd (setN t i (b nx)) (i + 1) (b s_61)) gp2_57 (upd r1 i (nI (b nx))) (upd r2 i (nI gap)) (setN t i (b nx)) (setN g i gap) (setB tk nx) (by omega) (hcei2) (hu_57) (lt_s (fun j hj => ⟨by rw [pk_un (by omega), setN_n (by omega)]; exact (hr j hj).1, by rw [pk_un (by omega), setN_n (by omega)]; exact (hr j hj).2⟩) ⟨by rw [pk_us, setN_s], by rw [pk_us, setN_s]⟩) (by omega)
  exact lp_21 _ 0 0 0 (fl gp 60 (nI 100000)) rf rg (fun _ => 0) (fun _ => 0) (fun _ => false) (by omega) (cei_0 hb hI (by omega)) (fun j hj => ⟨by rw [fl_at (by omega)]; rfl, Nat.le_refl _⟩) (fun j hj => absurd hj (Nat.not_lt_zero j)) (Nat.lt_succ_self _)
