abbrev Ev : Type := Launch × va_G × ClassId × ClassId
abbrev Cx : Type := Program × Env × Room × State × MethodId × Array Value × List Frame × Method × Code × (State → Prop) × (Nat → Prop) × Nat
def tyl (cI cZ : ClassId) : List (ClassId × FieldType) := [(cI, .int), (cZ, .boolean)]
/-- an array of ints, of booleans, an object -/
abbrev ia (E : Ev) (a N : Nat) (f : Nat → Int32) : Nat × va_E := (a, .inl (E.2.2.1, N, .inl f))
abbrev za (E : Ev) (a N : Nat) (f : Nat → Int32) : Nat × va_E := (a, .inl (E.2.2.2, N, .inl f))
abbrev ob (a ci : Nat) (fs : List Value) : Nat × va_E := (a, .inr (ci, fs))
/-- the machine at pc with locals lv, stack st, cells ws (k cells of n slots made so far): it comes to a state with Q -/
def GW (E : Ev) (X : Cx) (k n : Nat) (ws : va_W) (lv : List (Nat × Value)) (pc : Nat) (st : List Value) : Prop :=
  match E, X with
  | (l, D, _, _), (p, e, R, s, m, args, below, meth, c, Q, A, nL) => ∀ (H : Heap) (locs : List Loc) (ls : Array Slot), va_P D vwCl ws H → va_D A ws → va_S A s.heap H locs → lv_has ls nL lv → W p l e R s m args below meth c H locs k n Q (F0 m pc ls st)
def FX (E : Ev) (X : Cx) (cc : ByteArray) (own : String) (rm : Room) (nL0 : Nat) : Prop :=
  match E, X with
  | (_, D, cI, cZ), (p, _, R, s, m, args, _, meth, c, _, A, nL) => p.tables.exec = Jvm.exec ∧ c.code = cc ∧ c.maxLocals = nL ∧ s.vm.findClass own = some m.cls ∧ (∀ w ∈ lw_g, w.before args s = true) ∧ va_K D vwCl (tyl cI cZ) s ∧ (∀ q, s.heap.size ≤ q → A q) ∧ R = rm ∧ nL = nL0 ∧ meth.locks = false
def wq (y : MethodName) (b : ByteArray) (n : Nat) (r : Option FieldType) : List Cond := .code y b n r :: lw_g
theorem fm_of_map {α β : Type} {is : List α} {f : α → Option β} {w : List β} (h : is.map f = w.map some) : is.filterMap f = w := by
  have h2 := congrArg (List.filterMap id) h
  simpa [List.filterMap_map] using h2
theorem cb_join {A0 : Nat → Prop} {D : va_G} {cl : List vw_C} {ws wc wr w1 wn : va_W} {H H1 : Heap} (hP : va_P D cl ws H) (hD : va_D A0 ws) (isC isR perm : List Nat) (hC : isC.map (fun i => ws[i]?) = wc.map some) (hR : isR.map (fun i => ws[i]?) = wr.map some) (hn : va_nd isR = true) (hdis : ∀ i ∈ isR, i ∉ isC)
    (hk : ∀ q : Nat, q < H.size → ¬ va_A wc H.size q → H1[q]? = H[q]?) (hF : ∀ q, va_A wc H.size q → A0 q) (hP1 : va_P D cl w1 H1) (hD1 : va_D (va_A wc H.size) w1) (hpn : va_nd perm = true) (hperm : perm.map (fun i => (wr ++ w1)[i]?) = wn.map some) : va_P D cl wn H1 ∧ va_D A0 wn := by
  obtain ⟨hP2, hD2⟩ := va_join hP hD isC isR hC hR hn hdis hk hF hP1 hD1
  exact ⟨hP2.sub perm (fm_of_map hperm), hD2.sub perm hpn hperm⟩
theorem gi_q {y : MethodName} {b : ByteArray} {n : Nat} {r : Option FieldType} (h : Cond.code y b n r ∈ lw_g) : GoodIn lw_g (wq y b n r) := fun w hw => gi_all w ((List.mem_cons.mp hw).elim (fun e => e ▸ h) id)
/-! contracts -/
def PcW (E : Ev) (av : List Value) (wc : va_W) (sz : Nat) : Array Value → State → Prop := va_Pc av (fun U => U.heap.size = sz ∧ va_P E.2.1 vwCl wc U.heap ∧ va_K E.2.1 vwCl (tyl E.2.2.1 E.2.2.2) U ∧ va_D (fun _ => True) wc)
def BW (E : Ev) {S : Type} (wc : va_W) (w1 : S → va_W) (sz : Nat) (u : S) (t : State) : Prop := va_P E.2.1 vwCl (w1 u) t.heap ∧ va_K E.2.1 vwCl (tyl E.2.2.1 E.2.2.2) t ∧ va_D (va_A wc sz) (w1 u)
def CTi (E : Ev) (y : MethodName) (wm : List Cond) (rm : Room) (av : List Value) (wc : va_W) {S : Type} (post : Int32 → S → Prop) (w1 : S → va_W) : Prop :=
  ∀ sz : Nat, Met E.1 y wm rm (PcW E av wc sz) (va_Qi post (BW E wc w1 sz) (va_A wc sz)) 0 0 (va_A wc sz)
def CTl (E : Ev) (y : MethodName) (wm : List Cond) (rm : Room) (av : List Value) (wc : va_W) {S : Type} (post : Int64 → S → Prop) (w1 : S → va_W) : Prop :=
  ∀ sz : Nat, Met E.1 y wm rm (PcW E av wc sz) (va_Ql post (BW E wc w1 sz) (va_A wc sz)) 0 0 (va_A wc sz)
def CTv (E : Ev) (y : MethodName) (wm : List Cond) (rm : Room) (av : List Value) (wc : va_W) {S : Type} (post : S → Prop) (w1 : S → va_W) : Prop :=
  ∀ sz : Nat, Met E.1 y wm rm (PcW E av wc sz) (va_Qv post (BW E wc w1 sz) (va_A wc sz)) 0 0 (va_A wc sz)
/-- an answer that is the cell ra -/
def CTr (E : Ev) (y : MethodName) (wm : List Cond) (rm : Room) (av : List Value) (wc : va_W) (ra : Nat) {S : Type} (post : S → Prop) (w1 : S → va_W) : Prop :=
  ∀ sz : Nat, Met E.1 y wm rm (PcW E av wc sz) (va_Qr post (fun u a t => a = ra ∧ BW E wc w1 sz u t) (va_A wc sz)) 0 0 (va_A wc sz)
/-- a method that only reads: it answers v -/
def RDi (E : Ev) (y : MethodName) (wm : List Cond) (rm : Room) (av : List Value) (wc : va_W) (v : Int32) : Prop := CTi E y wm rm av wc (fun r (_ : Unit) => r = v) (fun _ => wc)
def rmk (f lo : Nat) : Room := { frames := f, cells := 0, slots := 0, locals := lo }
def RTi (E : Ev) (X : Cx) (cc : ByteArray) {S : Type} (post : Int32 → S → Prop) (w1 : S → va_W) : Prop := ∀ (r : Int32) (u : S) (lv : List (Nat × Value)) (pc : Nat), decode cc pc = .ok (.ireturn, 1) → post r u → GW E X 0 0 (w1 u) lv pc [.int r]
def RTz (E : Ev) (X : Cx) (cc : ByteArray) {S : Type} (post : Int32 → S → Prop) (w1 : S → va_W) : Prop := ∀ (r : Int32) (u : S) (lv : List (Nat × Value)) (pc : Nat), decode cc pc = .ok (.ireturn, 1) → (r = 0 ∨ r = 1) → post r u → GW E X 0 0 (w1 u) lv pc [.int r]
def RTl (E : Ev) (X : Cx) (cc : ByteArray) {S : Type} (post : Int64 → S → Prop) (w1 : S → va_W) : Prop := ∀ (r : Int64) (u : S) (lv : List (Nat × Value)) (pc : Nat), decode cc pc = .ok (.lreturn, 1) → post r u → GW E X 0 0 (w1 u) lv pc [.long r]
def RTv (E : Ev) (X : Cx) (cc : ByteArray) {S : Type} (post : S → Prop) (w1 : S → va_W) : Prop := ∀ (u : S) (lv : List (Nat × Value)) (pc : Nat), decode cc pc = .ok (.return_, 1) → post u → GW E X 0 0 (w1 u) lv pc []
def RTr (E : Ev) (X : Cx) (cc : ByteArray) (ra : Nat) {S : Type} (post : S → Prop) (w1 : S → va_W) : Prop := ∀ (u : S) (lv : List (Nat × Value)) (pc : Nat), decode cc pc = .ok (.areturn, 1) → post u → GW E X 0 0 (w1 u) lv pc [.ref ra]
theorem PcW.blind {E : Ev} {av : List Value} {wc : va_W} {sz : Nat} : FrameBlind (PcW E av wc sz) := fun a U g mk q => by
  obtain ⟨q0, q1, qP, qK, qD⟩ := q
  exact ⟨q0, q1, qP, va_K.moved (u := U) (U := U.calling g mk a) (Vm.Alike.refl U.vm) qK, qD⟩

theorem CTi.of {E : Ev} {S : Type} {y : MethodName} {bytes : ByteArray} {nL : Nat} {rm : Room} {av : List Value} {wc : va_W} {post : Int32 → S → Prop} {w1 : S → va_W} (hy : plainName y.cls = true) (hlen : (lg_sl av).length ≤ nL)
    (body : ∀ X : Cx, FX E X bytes y.cls rm nL → RTi E X bytes post w1 → GW E X 0 0 wc (lv_args 0 av) 0 []) : CTi E y (wq y bytes nL (some .int)) rm av wc post w1 := by
  obtain ⟨l, D, cI, cZ⟩ := E
  intro sz
  refine Met.ofW (cc := bytes) (maxL := nL) (ret := (some .int)) hy rfl ?_
  intro p e s m args below meth c s₁ B hml hv
  obtain ⟨rfl, hsz, hP, hK, hD0⟩ := hv
  have hx := B.exec
  have hb := B.bytes
  have hr := B.returns
  have hts := atoms_spec (ws := wq y bytes nL (some .int)) B.pre
  have hown : s.vm.findClass y.cls = some m.cls := findClass_of_methodNamed B.named
  have hlocks := B.notSynchronized
  subst hsz
  have hD := hD0.self (sz := s.heap.size)
  have hl := lv_entry av (n := nL) hlen
  rw [lg_entry_eq]
  exact body (p, e, rm, s, m, av.toArray, below, meth, c, MQ below (va_Qi post (BW (l, D, cI, cZ) wc w1 s.heap.size) (va_A wc s.heap.size)) av.toArray s 0 0 (va_A wc s.heap.size), va_A wc s.heap.size, nL) ⟨hx, hb, hml, hown, fun w h => hts w (List.mem_cons_of_mem _ h), hK, fun q h => Or.inr h, rfl, rfl, hlocks⟩
    (fun r u lv pc hdg hp H1 locs1 ls1 hP1 hD1 hS1 _ => W.iret (v := r) hx hb hr (fun t ht hW => ⟨⟨r, u, rfl, hp, by rw [ht]; exact hP1, va_K.moved hW.alike hK, hD1⟩, hS1.F ht⟩) hS1.2.2 hdg) s.heap [] _ hP hD va_S.rf hl

theorem CTi.ofZ {E : Ev} {S : Type} {y : MethodName} {bytes : ByteArray} {nL : Nat} {rm : Room} {av : List Value} {wc : va_W} {post : Int32 → S → Prop} {w1 : S → va_W} (hy : plainName y.cls = true) (hlen : (lg_sl av).length ≤ nL)
    (body : ∀ X : Cx, FX E X bytes y.cls rm nL → RTz E X bytes post w1 → GW E X 0 0 wc (lv_args 0 av) 0 []) : CTi E y (wq y bytes nL (some .boolean)) rm av wc post w1 := by
  obtain ⟨l, D, cI, cZ⟩ := E
  intro sz
  refine Met.ofW (cc := bytes) (maxL := nL) (ret := (some .boolean)) hy rfl ?_
  intro p e s m args below meth c s₁ B hml hv
  obtain ⟨rfl, hsz, hP, hK, hD0⟩ := hv
  have hx := B.exec
  have hb := B.bytes
  have hr := B.returns
  have hts := atoms_spec (ws := wq y bytes nL (some .boolean)) B.pre
  have hown : s.vm.findClass y.cls = some m.cls := findClass_of_methodNamed B.named
  have hlocks := B.notSynchronized
  subst hsz
  have hD := hD0.self (sz := s.heap.size)
  have hl := lv_entry av (n := nL) hlen
  rw [lg_entry_eq]
  exact body (p, e, rm, s, m, av.toArray, below, meth, c, MQ below (va_Qi post (BW (l, D, cI, cZ) wc w1 s.heap.size) (va_A wc s.heap.size)) av.toArray s 0 0 (va_A wc s.heap.size), va_A wc s.heap.size, nL) ⟨hx, hb, hml, hown, fun w h => hts w (List.mem_cons_of_mem _ h), hK, fun q h => Or.inr h, rfl, rfl, hlocks⟩
    (fun r u lv pc hdg hz hp H1 locs1 ls1 hP1 hD1 hS1 _ => W.zret (v := r) hx hb hr (by rcases hz with rfl | rfl <;> rfl) (fun t ht hW => ⟨⟨r, u, rfl, hp, by rw [ht]; exact hP1, va_K.moved hW.alike hK, hD1⟩, hS1.F ht⟩) hS1.2.2 hdg) s.heap [] _ hP hD va_S.rf hl

theorem CTl.of {E : Ev} {S : Type} {y : MethodName} {bytes : ByteArray} {nL : Nat} {rm : Room} {av : List Value} {wc : va_W} {post : Int64 → S → Prop} {w1 : S → va_W} (hy : plainName y.cls = true) (hlen : (lg_sl av).length ≤ nL)
    (body : ∀ X : Cx, FX E X bytes y.cls rm nL → RTl E X bytes post w1 → GW E X 0 0 wc (lv_args 0 av) 0 []) : CTl E y (wq y bytes nL (some .long)) rm av wc post w1 := by
  obtain ⟨l, D, cI, cZ⟩ := E
  intro sz
  refine Met.ofW (cc := bytes) (maxL := nL) (ret := (some .long)) hy rfl ?_
  intro p e s m args below meth c s₁ B hml hv
  obtain ⟨rfl, hsz, hP, hK, hD0⟩ := hv
  have hx := B.exec
  have hb := B.bytes
  have hr := B.returns
  have hts := atoms_spec (ws := wq y bytes nL (some .long)) B.pre
  have hown : s.vm.findClass y.cls = some m.cls := findClass_of_methodNamed B.named
  have hlocks := B.notSynchronized
  subst hsz
  have hD := hD0.self (sz := s.heap.size)
  have hl := lv_entry av (n := nL) hlen
  rw [lg_entry_eq]
  exact body (p, e, rm, s, m, av.toArray, below, meth, c, MQ below (va_Ql post (BW (l, D, cI, cZ) wc w1 s.heap.size) (va_A wc s.heap.size)) av.toArray s 0 0 (va_A wc s.heap.size), va_A wc s.heap.size, nL) ⟨hx, hb, hml, hown, fun w h => hts w (List.mem_cons_of_mem _ h), hK, fun q h => Or.inr h, rfl, rfl, hlocks⟩
    (fun r u lv pc hdg hp H1 locs1 ls1 hP1 hD1 hS1 _ => W.lret (v := r) hx hb hr (fun t ht hW => ⟨⟨r, u, rfl, hp, by rw [ht]; exact hP1, va_K.moved hW.alike hK, hD1⟩, hS1.F ht⟩) hS1.2.2 hdg) s.heap [] _ hP hD va_S.rf hl

theorem CTv.of {E : Ev} {S : Type} {y : MethodName} {bytes : ByteArray} {nL : Nat} {rm : Room} {av : List Value} {wc : va_W} {post : S → Prop} {w1 : S → va_W} (hy : plainName y.cls = true) (hlen : (lg_sl av).length ≤ nL)
    (body : ∀ X : Cx, FX E X bytes y.cls rm nL → RTv E X bytes post w1 → GW E X 0 0 wc (lv_args 0 av) 0 []) : CTv E y (wq y bytes nL none) rm av wc post w1 := by
  obtain ⟨l, D, cI, cZ⟩ := E
  intro sz
  refine Met.ofW (cc := bytes) (maxL := nL) (ret := none) hy rfl ?_
  intro p e s m args below meth c s₁ B hml hv
  obtain ⟨rfl, hsz, hP, hK, hD0⟩ := hv
  have hx := B.exec
  have hb := B.bytes
  have hr := B.returns
  have hts := atoms_spec (ws := wq y bytes nL none) B.pre
  have hown : s.vm.findClass y.cls = some m.cls := findClass_of_methodNamed B.named
  have hlocks := B.notSynchronized
  subst hsz
  have hD := hD0.self (sz := s.heap.size)
  have hl := lv_entry av (n := nL) hlen
  rw [lg_entry_eq]
  exact body (p, e, rm, s, m, av.toArray, below, meth, c, MQ below (va_Qv post (BW (l, D, cI, cZ) wc w1 s.heap.size) (va_A wc s.heap.size)) av.toArray s 0 0 (va_A wc s.heap.size), va_A wc s.heap.size, nL) ⟨hx, hb, hml, hown, fun w h => hts w (List.mem_cons_of_mem _ h), hK, fun q h => Or.inr h, rfl, rfl, hlocks⟩
    (fun u lv pc hdg hp H1 locs1 ls1 hP1 hD1 hS1 _ => W.vret hx hb hr (fun t ht hW => ⟨⟨u, rfl, hp, by rw [ht]; exact hP1, va_K.moved hW.alike hK, hD1⟩, hS1.F ht⟩) hS1.2.2 hdg) s.heap [] _ hP hD va_S.rf hl

theorem CTr.of {E : Ev} {S : Type} {y : MethodName} {bytes : ByteArray} {nL : Nat} {rm : Room} {av : List Value} {wc : va_W} {post : S → Prop} {w1 : S → va_W} {ra : Nat} {C : String} (hy : plainName y.cls = true) (hlen : (lg_sl av).length ≤ nL)
    (body : ∀ X : Cx, FX E X bytes y.cls rm nL → RTr E X bytes ra post w1 → GW E X 0 0 wc (lv_args 0 av) 0 []) : CTr E y (wq y bytes nL (some (.object C))) rm av wc ra post w1 := by
  obtain ⟨l, D, cI, cZ⟩ := E
  intro sz
  refine Met.ofW (cc := bytes) (maxL := nL) (ret := (some (.object C))) hy rfl ?_
  intro p e s m args below meth c s₁ B hml hv
  obtain ⟨rfl, hsz, hP, hK, hD0⟩ := hv
  have hx := B.exec
  have hb := B.bytes
  have hr := B.returns
  have hts := atoms_spec (ws := wq y bytes nL (some (.object C))) B.pre
  have hown : s.vm.findClass y.cls = some m.cls := findClass_of_methodNamed B.named
  have hlocks := B.notSynchronized
  subst hsz
  have hD := hD0.self (sz := s.heap.size)
  have hl := lv_entry av (n := nL) hlen
  rw [lg_entry_eq]
  exact body (p, e, rm, s, m, av.toArray, below, meth, c, MQ below (va_Qr post (fun u a t => a = ra ∧ BW (l, D, cI, cZ) wc w1 s.heap.size u t) (va_A wc s.heap.size)) av.toArray s 0 0 (va_A wc s.heap.size), va_A wc s.heap.size, nL) ⟨hx, hb, hml, hown, fun w h => hts w (List.mem_cons_of_mem _ h), hK, fun q h => Or.inr h, rfl, rfl, hlocks⟩
    (fun u lv pc hdg hp H1 locs1 ls1 hP1 hD1 hS1 _ => W.aret (v := .ref ra) hx hb hr (Or.inl ⟨_, rfl⟩) (Or.inr ⟨_, rfl⟩) (fun t ht hW => ⟨⟨u, ra, rfl, hp, rfl, by rw [ht]; exact hP1, va_K.moved hW.alike hK, hD1⟩, hS1.F ht⟩) hS1.2.2 hdg) s.heap [] _ hP hD va_S.rf hl

section GWR
variable {E : Ev} {X : Cx} {cc : ByteArray} {own : String} {rm : Room} {nL0 k n pc : Nat} {ws : va_W} {lv : List (Nat × Value)} {st : List Value}

theorem g_iconst (F : FX E X cc own rm nL0) {z : Int} (v : Int32) (hv : Int32.ofInt z = v) (hdg : decode cc pc = .ok (.iconst z, 1)) (kk : GW E X k n ws lv (pc + 1) (.int v :: st)) : GW E X k n ws lv pc (st) := by
  obtain ⟨l, D, cI, cZ⟩ := E
  obtain ⟨p, e, R, s, m, args, below, meth, c, Q, A, nL⟩ := X
  obtain ⟨hx, hb, hml, hown, hts, hK, hA, hR, hnL, hlk⟩ := F
  subst hR
  subst hnL
  intro H locs ls hP hD hS hl
  exact lv_iconst hx hb hdg hv (kk H locs ls hP hD hS hl)

theorem g_bipush (F : FX E X cc own rm nL0) {z : Int} (v : Int32) (hv : (Int8.ofInt z).toInt32 = v) (hdg : decode cc pc = .ok (.bipush z, 2)) (kk : GW E X k n ws lv (pc + 2) (.int v :: st)) : GW E X k n ws lv pc (st) := by
  obtain ⟨l, D, cI, cZ⟩ := E
  obtain ⟨p, e, R, s, m, args, below, meth, c, Q, A, nL⟩ := X
  obtain ⟨hx, hb, hml, hown, hts, hK, hA, hR, hnL, hlk⟩ := F
  subst hR
  subst hnL
  intro H locs ls hP hD hS hl
  exact lv_bipush hx hb hdg hv (kk H locs ls hP hD hS hl)

theorem g_sipush (F : FX E X cc own rm nL0) {z : Int} (v : Int32) (hv : (Int16.ofInt z).toInt32 = v) (hdg : decode cc pc = .ok (.sipush z, 3)) (kk : GW E X k n ws lv (pc + 3) (.int v :: st)) : GW E X k n ws lv pc (st) := by
  obtain ⟨l, D, cI, cZ⟩ := E
  obtain ⟨p, e, R, s, m, args, below, meth, c, Q, A, nL⟩ := X
  obtain ⟨hx, hb, hml, hown, hts, hK, hA, hR, hnL, hlk⟩ := F
  subst hR
  subst hnL
  intro H locs ls hP hD hS hl
  exact lv_sipush hx hb hdg hv (kk H locs ls hP hD hS hl)

theorem g_lconst (F : FX E X cc own rm nL0) {z : Fin 2} (v : Int64) (hv : Int64.ofNat (z : Nat) = v) (hdg : decode cc pc = .ok (.lconst z, 1)) (kk : GW E X k n ws lv (pc + 1) (.long v :: st)) : GW E X k n ws lv pc (st) := by
  obtain ⟨l, D, cI, cZ⟩ := E
  obtain ⟨p, e, R, s, m, args, below, meth, c, Q, A, nL⟩ := X
  obtain ⟨hx, hb, hml, hown, hts, hK, hA, hR, hnL, hlk⟩ := F
  subst hR
  subst hnL
  intro H locs ls hP hD hS hl
  exact lv_lconst hx hb hdg hv (kk H locs ls hP hD hS hl)

theorem g_ldc (F : FX E X cc own rm nL0) {ix : Nat} {v : Int32} (hc : Cond.constant own ix v ∈ lw_g) (hdg : decode cc pc = .ok (.ldc ix, 2)) (kk : GW E X k n ws lv (pc + 2) (.int v :: st)) : GW E X k n ws lv pc (st) := by
  obtain ⟨l, D, cI, cZ⟩ := E
  obtain ⟨p, e, R, s, m, args, below, meth, c, Q, A, nL⟩ := X
  obtain ⟨hx, hb, hml, hown, hts, hK, hA, hR, hnL, hlk⟩ := F
  subst hR
  subst hnL
  intro H locs ls hP hD hS hl
  exact lv_ldc hx hb hown (hts _ hc) hdg (kk H locs ls hP hD hS hl)

theorem g_ldc2 (F : FX E X cc own rm nL0) {ix : Nat} {v : Int64} (hc : Cond.constantLong own ix v ∈ lw_g) (hdg : decode cc pc = .ok (.ldc2_w ix, 3)) (kk : GW E X k n ws lv (pc + 3) (.long v :: st)) : GW E X k n ws lv pc (st) := by
  obtain ⟨l, D, cI, cZ⟩ := E
  obtain ⟨p, e, R, s, m, args, below, meth, c, Q, A, nL⟩ := X
  obtain ⟨hx, hb, hml, hown, hts, hK, hA, hR, hnL, hlk⟩ := F
  subst hR
  subst hnL
  intro H locs ls hP hD hS hl
  exact lv_ldc2 hx hb hown (hts _ hc) hdg (kk H locs ls hP hD hS hl)

theorem g_iload_n (F : FX E X cc own rm nL0) {q : Fin 4} {x : Int32} (j : Nat) (hj : lv[j]? = some ((q : Nat), .int x)) (hdg : decode cc pc = .ok (.iload_n q, 1)) (kk : GW E X k n ws lv (pc + 1) (.int x :: st)) : GW E X k n ws lv pc (st) := by
  obtain ⟨l, D, cI, cZ⟩ := E
  obtain ⟨p, e, R, s, m, args, below, meth, c, Q, A, nL⟩ := X
  obtain ⟨hx, hb, hml, hown, hts, hK, hA, hR, hnL, hlk⟩ := F
  subst hR
  subst hnL
  intro H locs ls hP hD hS hl
  exact lv_iload_n hx hb hdg rfl (lv_at hl j hj) (kk H locs ls hP hD hS hl)

theorem g_iload (F : FX E X cc own rm nL0) {i : Nat} {x : Int32} (j : Nat) (hj : lv[j]? = some (i, .int x)) (hdg : decode cc pc = .ok (.iload i, 2)) (kk : GW E X k n ws lv (pc + 2) (.int x :: st)) : GW E X k n ws lv pc (st) := by
  obtain ⟨l, D, cI, cZ⟩ := E
  obtain ⟨p, e, R, s, m, args, below, meth, c, Q, A, nL⟩ := X
  obtain ⟨hx, hb, hml, hown, hts, hK, hA, hR, hnL, hlk⟩ := F
  subst hR
  subst hnL
  intro H locs ls hP hD hS hl
  exact lv_iload hx hb hdg (lv_at hl j hj) (kk H locs ls hP hD hS hl)

theorem g_istore_n (F : FX E X cc own rm nL0) {q : Fin 4} {x : Int32} (i : Nat) (lv' : List (Nat × Value)) (ks : List Nat) (hdg : decode cc pc = .ok (.istore_n q, 1)) (hi : (q : Nat) = i) (hn : i < nL0) (hv : lv_pick ((i, Value.int x) :: lv.filter (fun z => !(z.1 == i) && !(z.1 + 1 == i && z.2.category == 2))) ks = lv') (kk : GW E X k n ws lv' (pc + 1) st) : GW E X k n ws lv pc (.int x :: st) := by
  obtain ⟨l, D, cI, cZ⟩ := E
  obtain ⟨p, e, R, s, m, args, below, meth, c, Q, A, nL⟩ := X
  obtain ⟨hx, hb, hml, hown, hts, hK, hA, hR, hnL, hlk⟩ := F
  subst hR
  subst hnL
  intro H locs ls hP hD hS hl
  exact lv_istore_n hx hb hdg hi hl hn rfl (fun ls' hl' => kk H locs ls' hP hD hS (lv_sub hl' ks hv))

theorem g_istore (F : FX E X cc own rm nL0) {x : Int32} (i : Nat) (lv' : List (Nat × Value)) (ks : List Nat) (hdg : decode cc pc = .ok (.istore i, 2)) (hn : i < nL0) (hv : lv_pick ((i, Value.int x) :: lv.filter (fun z => !(z.1 == i) && !(z.1 + 1 == i && z.2.category == 2))) ks = lv') (kk : GW E X k n ws lv' (pc + 2) st) : GW E X k n ws lv pc (.int x :: st) := by
  obtain ⟨l, D, cI, cZ⟩ := E
  obtain ⟨p, e, R, s, m, args, below, meth, c, Q, A, nL⟩ := X
  obtain ⟨hx, hb, hml, hown, hts, hK, hA, hR, hnL, hlk⟩ := F
  subst hR
  subst hnL
  intro H locs ls hP hD hS hl
  exact lv_istore hx hb hdg hl hn rfl (fun ls' hl' => kk H locs ls' hP hD hS (lv_sub hl' ks hv))

theorem g_lload_n (F : FX E X cc own rm nL0) {q : Fin 4} {x : Int64} (j : Nat) (hj : lv[j]? = some ((q : Nat), .long x)) (hdg : decode cc pc = .ok (.lload_n q, 1)) (kk : GW E X k n ws lv (pc + 1) (.long x :: st)) : GW E X k n ws lv pc (st) := by
  obtain ⟨l, D, cI, cZ⟩ := E
  obtain ⟨p, e, R, s, m, args, below, meth, c, Q, A, nL⟩ := X
  obtain ⟨hx, hb, hml, hown, hts, hK, hA, hR, hnL, hlk⟩ := F
  subst hR
  subst hnL
  intro H locs ls hP hD hS hl
  exact lv_lload_n hx hb hdg rfl (lv_at hl j hj) (kk H locs ls hP hD hS hl)

theorem g_lload (F : FX E X cc own rm nL0) {i : Nat} {x : Int64} (j : Nat) (hj : lv[j]? = some (i, .long x)) (hdg : decode cc pc = .ok (.lload i, 2)) (kk : GW E X k n ws lv (pc + 2) (.long x :: st)) : GW E X k n ws lv pc (st) := by
  obtain ⟨l, D, cI, cZ⟩ := E
  obtain ⟨p, e, R, s, m, args, below, meth, c, Q, A, nL⟩ := X
  obtain ⟨hx, hb, hml, hown, hts, hK, hA, hR, hnL, hlk⟩ := F
  subst hR
  subst hnL
  intro H locs ls hP hD hS hl
  exact lv_lload hx hb hdg (lv_at hl j hj) (kk H locs ls hP hD hS hl)

theorem g_lstore_n (F : FX E X cc own rm nL0) {q : Fin 4} {x : Int64} (i : Nat) (lv' : List (Nat × Value)) (ks : List Nat) (hdg : decode cc pc = .ok (.lstore_n q, 1)) (hi : (q : Nat) = i) (hn : i + 1 < nL0) (hv : lv_pick ((i, Value.long x) :: lv.filter (fun z => !(z.1 == i) && (!(z.1 == i + 1) && !(z.1 + 1 == i && z.2.category == 2)))) ks = lv') (kk : GW E X k n ws lv' (pc + 1) st) : GW E X k n ws lv pc (.long x :: st) := by
  obtain ⟨l, D, cI, cZ⟩ := E
  obtain ⟨p, e, R, s, m, args, below, meth, c, Q, A, nL⟩ := X
  obtain ⟨hx, hb, hml, hown, hts, hK, hA, hR, hnL, hlk⟩ := F
  subst hR
  subst hnL
  intro H locs ls hP hD hS hl
  exact lv_lstore_n hx hb hdg hi hl hn rfl (fun ls' hl' => kk H locs ls' hP hD hS (lv_sub hl' ks hv))

theorem g_lstore (F : FX E X cc own rm nL0) {x : Int64} (i : Nat) (lv' : List (Nat × Value)) (ks : List Nat) (hdg : decode cc pc = .ok (.lstore i, 2)) (hn : i + 1 < nL0) (hv : lv_pick ((i, Value.long x) :: lv.filter (fun z => !(z.1 == i) && (!(z.1 == i + 1) && !(z.1 + 1 == i && z.2.category == 2)))) ks = lv') (kk : GW E X k n ws lv' (pc + 2) st) : GW E X k n ws lv pc (.long x :: st) := by
  obtain ⟨l, D, cI, cZ⟩ := E
  obtain ⟨p, e, R, s, m, args, below, meth, c, Q, A, nL⟩ := X
  obtain ⟨hx, hb, hml, hown, hts, hK, hA, hR, hnL, hlk⟩ := F
  subst hR
  subst hnL
  intro H locs ls hP hD hS hl
  exact lv_lstore hx hb hdg hl hn rfl (fun ls' hl' => kk H locs ls' hP hD hS (lv_sub hl' ks hv))

theorem g_aload_n (F : FX E X cc own rm nL0) {q : Fin 4} {x : Nat} (j : Nat) (hj : lv[j]? = some ((q : Nat), .ref x)) (hdg : decode cc pc = .ok (.aload_n q, 1)) (kk : GW E X k n ws lv (pc + 1) (.ref x :: st)) : GW E X k n ws lv pc (st) := by
  obtain ⟨l, D, cI, cZ⟩ := E
  obtain ⟨p, e, R, s, m, args, below, meth, c, Q, A, nL⟩ := X
  obtain ⟨hx, hb, hml, hown, hts, hK, hA, hR, hnL, hlk⟩ := F
  subst hR
  subst hnL
  intro H locs ls hP hD hS hl
  exact lv_aload_n hx hb hdg rfl (lv_at hl j hj) (kk H locs ls hP hD hS hl)

theorem g_aload (F : FX E X cc own rm nL0) {i : Nat} {x : Nat} (j : Nat) (hj : lv[j]? = some (i, .ref x)) (hdg : decode cc pc = .ok (.aload i, 2)) (kk : GW E X k n ws lv (pc + 2) (.ref x :: st)) : GW E X k n ws lv pc (st) := by
  obtain ⟨l, D, cI, cZ⟩ := E
  obtain ⟨p, e, R, s, m, args, below, meth, c, Q, A, nL⟩ := X
  obtain ⟨hx, hb, hml, hown, hts, hK, hA, hR, hnL, hlk⟩ := F
  subst hR
  subst hnL
  intro H locs ls hP hD hS hl
  exact lv_aload hx hb hdg (lv_at hl j hj) (kk H locs ls hP hD hS hl)

theorem g_astore_n (F : FX E X cc own rm nL0) {q : Fin 4} {x : Nat} (i : Nat) (lv' : List (Nat × Value)) (ks : List Nat) (hdg : decode cc pc = .ok (.astore_n q, 1)) (hi : (q : Nat) = i) (hn : i < nL0) (hv : lv_pick ((i, Value.ref x) :: lv.filter (fun z => !(z.1 == i) && !(z.1 + 1 == i && z.2.category == 2))) ks = lv') (kk : GW E X k n ws lv' (pc + 1) st) : GW E X k n ws lv pc (.ref x :: st) := by
  obtain ⟨l, D, cI, cZ⟩ := E
  obtain ⟨p, e, R, s, m, args, below, meth, c, Q, A, nL⟩ := X
  obtain ⟨hx, hb, hml, hown, hts, hK, hA, hR, hnL, hlk⟩ := F
  subst hR
  subst hnL
  intro H locs ls hP hD hS hl
  exact lv_astore_n hx hb hdg hi hl hn rfl (fun ls' hl' => kk H locs ls' hP hD hS (lv_sub hl' ks hv))

theorem g_astore (F : FX E X cc own rm nL0) {x : Nat} (i : Nat) (lv' : List (Nat × Value)) (ks : List Nat) (hdg : decode cc pc = .ok (.astore i, 2)) (hn : i < nL0) (hv : lv_pick ((i, Value.ref x) :: lv.filter (fun z => !(z.1 == i) && !(z.1 + 1 == i && z.2.category == 2))) ks = lv') (kk : GW E X k n ws lv' (pc + 2) st) : GW E X k n ws lv pc (.ref x :: st) := by
  obtain ⟨l, D, cI, cZ⟩ := E
  obtain ⟨p, e, R, s, m, args, below, meth, c, Q, A, nL⟩ := X
  obtain ⟨hx, hb, hml, hown, hts, hK, hA, hR, hnL, hlk⟩ := F
  subst hR
  subst hnL
  intro H locs ls hP hD hS hl
  exact lv_astore hx hb hdg hl hn rfl (fun ls' hl' => kk H locs ls' hP hD hS (lv_sub hl' ks hv))

theorem g_iinc (F : FX E X cc own rm nL0) {z : Int} {x : Int32} (v : Int32) (i j : Nat) (lv' : List (Nat × Value)) (ks : List Nat) (hdg : decode cc pc = .ok (.iinc i z, 3)) (hj : lv[j]? = some (i, .int x)) (hz : x + Int32.ofInt z = v) (hn : i < nL0) (hv : lv_pick ((i, Value.int v) :: lv.filter (fun z => !(z.1 == i) && !(z.1 + 1 == i && z.2.category == 2))) ks = lv') (kk : GW E X k n ws lv' (pc + 3) st) : GW E X k n ws lv pc st := by
  obtain ⟨l, D, cI, cZ⟩ := E
  obtain ⟨p, e, R, s, m, args, below, meth, c, Q, A, nL⟩ := X
  obtain ⟨hx, hb, hml, hown, hts, hK, hA, hR, hnL, hlk⟩ := F
  subst hR
  subst hnL
  intro H locs ls hP hD hS hl
  exact lv_iinc hx hb hdg hl hj hz hn rfl (fun ls' hl' => kk H locs ls' hP hD hS (lv_sub hl' ks hv))

theorem g_iadd (F : FX E X cc own rm nL0) {x y : Int32} (hdg : decode cc pc = .ok (.iadd, 1)) (kk : GW E X k n ws lv (pc + 1) (.int (x + y) :: st)) : GW E X k n ws lv pc (.int y :: .int x :: st) := by
  obtain ⟨l, D, cI, cZ⟩ := E
  obtain ⟨p, e, R, s, m, args, below, meth, c, Q, A, nL⟩ := X
  obtain ⟨hx, hb, hml, hown, hts, hK, hA, hR, hnL, hlk⟩ := F
  subst hR
  subst hnL
  intro H locs ls hP hD hS hl
  exact lv_iadd hx hb hdg (kk H locs ls hP hD hS hl)

theorem g_isub (F : FX E X cc own rm nL0) {x y : Int32} (hdg : decode cc pc = .ok (.isub, 1)) (kk : GW E X k n ws lv (pc + 1) (.int (x - y) :: st)) : GW E X k n ws lv pc (.int y :: .int x :: st) := by
  obtain ⟨l, D, cI, cZ⟩ := E
  obtain ⟨p, e, R, s, m, args, below, meth, c, Q, A, nL⟩ := X
  obtain ⟨hx, hb, hml, hown, hts, hK, hA, hR, hnL, hlk⟩ := F
  subst hR
  subst hnL
  intro H locs ls hP hD hS hl
  exact lv_isub hx hb hdg (kk H locs ls hP hD hS hl)

theorem g_imul (F : FX E X cc own rm nL0) {x y : Int32} (hdg : decode cc pc = .ok (.imul, 1)) (kk : GW E X k n ws lv (pc + 1) (.int (x * y) :: st)) : GW E X k n ws lv pc (.int y :: .int x :: st) := by
  obtain ⟨l, D, cI, cZ⟩ := E
  obtain ⟨p, e, R, s, m, args, below, meth, c, Q, A, nL⟩ := X
  obtain ⟨hx, hb, hml, hown, hts, hK, hA, hR, hnL, hlk⟩ := F
  subst hR
  subst hnL
  intro H locs ls hP hD hS hl
  exact lv_imul hx hb hdg (kk H locs ls hP hD hS hl)

theorem g_iand (F : FX E X cc own rm nL0) {x y : Int32} (hdg : decode cc pc = .ok (.iand, 1)) (kk : GW E X k n ws lv (pc + 1) (.int (x &&& y) :: st)) : GW E X k n ws lv pc (.int y :: .int x :: st) := by
  obtain ⟨l, D, cI, cZ⟩ := E
  obtain ⟨p, e, R, s, m, args, below, meth, c, Q, A, nL⟩ := X
  obtain ⟨hx, hb, hml, hown, hts, hK, hA, hR, hnL, hlk⟩ := F
  subst hR
  subst hnL
  intro H locs ls hP hD hS hl
  exact lv_iand hx hb hdg (kk H locs ls hP hD hS hl)

theorem g_idiv (F : FX E X cc own rm nL0) {x y : Int32} (hne : ¬ y = 0) (hdg : decode cc pc = .ok (.idiv, 1)) (kk : GW E X k n ws lv (pc + 1) (.int (x / y) :: st)) : GW E X k n ws lv pc (.int y :: .int x :: st) := by
  obtain ⟨l, D, cI, cZ⟩ := E
  obtain ⟨p, e, R, s, m, args, below, meth, c, Q, A, nL⟩ := X
  obtain ⟨hx, hb, hml, hown, hts, hK, hA, hR, hnL, hlk⟩ := F
  subst hR
  subst hnL
  intro H locs ls hP hD hS hl
  exact lv_idiv hx hb hdg hne (kk H locs ls hP hD hS hl)

theorem g_irem (F : FX E X cc own rm nL0) {x y : Int32} (hne : ¬ y = 0) (hdg : decode cc pc = .ok (.irem, 1)) (kk : GW E X k n ws lv (pc + 1) (.int (x - x / y * y) :: st)) : GW E X k n ws lv pc (.int y :: .int x :: st) := by
  obtain ⟨l, D, cI, cZ⟩ := E
  obtain ⟨p, e, R, s, m, args, below, meth, c, Q, A, nL⟩ := X
  obtain ⟨hx, hb, hml, hown, hts, hK, hA, hR, hnL, hlk⟩ := F
  subst hR
  subst hnL
  intro H locs ls hP hD hS hl
  exact lv_irem hx hb hdg hne (kk H locs ls hP hD hS hl)

theorem g_ineg (F : FX E X cc own rm nL0) {x : Int32} (hdg : decode cc pc = .ok (.ineg, 1)) (kk : GW E X k n ws lv (pc + 1) (.int (-x) :: st)) : GW E X k n ws lv pc (.int x :: st) := by
  obtain ⟨l, D, cI, cZ⟩ := E
  obtain ⟨p, e, R, s, m, args, below, meth, c, Q, A, nL⟩ := X
  obtain ⟨hx, hb, hml, hown, hts, hK, hA, hR, hnL, hlk⟩ := F
  subst hR
  subst hnL
  intro H locs ls hP hD hS hl
  exact lv_ineg hx hb hdg (kk H locs ls hP hD hS hl)

theorem g_ladd (F : FX E X cc own rm nL0) {x y : Int64} (hdg : decode cc pc = .ok (.ladd, 1)) (kk : GW E X k n ws lv (pc + 1) (.long (x + y) :: st)) : GW E X k n ws lv pc (.long y :: .long x :: st) := by
  obtain ⟨l, D, cI, cZ⟩ := E
  obtain ⟨p, e, R, s, m, args, below, meth, c, Q, A, nL⟩ := X
  obtain ⟨hx, hb, hml, hown, hts, hK, hA, hR, hnL, hlk⟩ := F
  subst hR
  subst hnL
  intro H locs ls hP hD hS hl
  exact lv_ladd hx hb hdg (kk H locs ls hP hD hS hl)

theorem g_i2l (F : FX E X cc own rm nL0) {x : Int32} (v : Int64) (hv : x.toInt64 = v) (hdg : decode cc pc = .ok (.i2l, 1)) (kk : GW E X k n ws lv (pc + 1) (.long v :: st)) : GW E X k n ws lv pc (.int x :: st) := by
  obtain ⟨l, D, cI, cZ⟩ := E
  obtain ⟨p, e, R, s, m, args, below, meth, c, Q, A, nL⟩ := X
  obtain ⟨hx, hb, hml, hown, hts, hK, hA, hR, hnL, hlk⟩ := F
  subst hR
  subst hnL
  intro H locs ls hP hD hS hl
  exact lv_i2l hx hb hdg hv (kk H locs ls hP hD hS hl)

theorem g_lcmp (F : FX E X cc own rm nL0) {x y : Int64} (hdg : decode cc pc = .ok (.lcmp, 1)) (kk : GW E X k n ws lv (pc + 1) (.int (lg_cmp x y) :: st)) : GW E X k n ws lv pc (.long y :: .long x :: st) := by
  obtain ⟨l, D, cI, cZ⟩ := E
  obtain ⟨p, e, R, s, m, args, below, meth, c, Q, A, nL⟩ := X
  obtain ⟨hx, hb, hml, hown, hts, hK, hA, hR, hnL, hlk⟩ := F
  subst hR
  subst hnL
  intro H locs ls hP hD hS hl
  exact W.lcmp hx hb hdg (kk H locs ls hP hD hS hl)

theorem g_dup (F : FX E X cc own rm nL0) {v : Value} (hc : v.category = 1) (hdg : decode cc pc = .ok (.dup, 1)) (kk : GW E X k n ws lv (pc + 1) (v :: v :: st)) : GW E X k n ws lv pc (v :: st) := by
  obtain ⟨l, D, cI, cZ⟩ := E
  obtain ⟨p, e, R, s, m, args, below, meth, c, Q, A, nL⟩ := X
  obtain ⟨hx, hb, hml, hown, hts, hK, hA, hR, hnL, hlk⟩ := F
  subst hR
  subst hnL
  intro H locs ls hP hD hS hl
  exact lv_dup hx hb hdg hc (kk H locs ls hP hD hS hl)

theorem g_pop (F : FX E X cc own rm nL0) {v : Value} (hc : v.category = 1) (hdg : decode cc pc = .ok (.pop, 1)) (kk : GW E X k n ws lv (pc + 1) (st)) : GW E X k n ws lv pc (v :: st) := by
  obtain ⟨l, D, cI, cZ⟩ := E
  obtain ⟨p, e, R, s, m, args, below, meth, c, Q, A, nL⟩ := X
  obtain ⟨hx, hb, hml, hown, hts, hK, hA, hR, hnL, hlk⟩ := F
  subst hR
  subst hnL
  intro H locs ls hP hD hS hl
  exact lv_pop hx hb hdg hc (kk H locs ls hP hD hS hl)

theorem g_dup_x1 (F : FX E X cc own rm nL0) {v w : Value} (hc : v.category = 1) (hc2 : w.category = 1) (hdg : decode cc pc = .ok (.dup_x1, 1)) (kk : GW E X k n ws lv (pc + 1) (v :: w :: v :: st)) : GW E X k n ws lv pc (v :: w :: st) := by
  obtain ⟨l, D, cI, cZ⟩ := E
  obtain ⟨p, e, R, s, m, args, below, meth, c, Q, A, nL⟩ := X
  obtain ⟨hx, hb, hml, hown, hts, hK, hA, hR, hnL, hlk⟩ := F
  subst hR
  subst hnL
  intro H locs ls hP hD hS hl
  exact lv_dup_x1 hx hb hdg hc hc2 (kk H locs ls hP hD hS hl)

theorem g_dup2 (F : FX E X cc own rm nL0) {v w : Value} (hc : v.category = 1) (hc2 : w.category = 1) (hdg : decode cc pc = .ok (.dup2, 1)) (kk : GW E X k n ws lv (pc + 1) (v :: w :: v :: w :: st)) : GW E X k n ws lv pc (v :: w :: st) := by
  obtain ⟨l, D, cI, cZ⟩ := E
  obtain ⟨p, e, R, s, m, args, below, meth, c, Q, A, nL⟩ := X
  obtain ⟨hx, hb, hml, hown, hts, hK, hA, hR, hnL, hlk⟩ := F
  subst hR
  subst hnL
  intro H locs ls hP hD hS hl
  exact lv_dup2_11 hx hb hdg hc hc2 (kk H locs ls hP hD hS hl)

theorem g_goto (F : FX E X cc own rm nL0) {off : Int} (tgt : Nat) (hdg : decode cc pc = .ok (.goto off, 3)) (ht : (pc : Int) + off = (tgt : Int)) (kk : GW E X k n ws lv tgt st) : GW E X k n ws lv pc st := by
  obtain ⟨l, D, cI, cZ⟩ := E
  obtain ⟨p, e, R, s, m, args, below, meth, c, Q, A, nL⟩ := X
  obtain ⟨hx, hb, hml, hown, hts, hK, hA, hR, hnL, hlk⟩ := F
  subst hR
  subst hnL
  intro H locs ls hP hD hS hl
  exact lv_goto hx hb hdg ht (kk H locs ls hP hD hS hl)

theorem g_if_eq (F : FX E X cc own rm nL0) {x : Int32} {off : Int} (tgt : Nat) (hdg : decode cc pc = .ok (.ifCond .eq off, 3)) (ht : (pc : Int) + off = (tgt : Int)) (kt : x = 0 → GW E X k n ws lv tgt st) (kf : ¬ x = 0 → GW E X k n ws lv (pc + 3) st) : GW E X k n ws lv pc (.int x :: st) := by
  obtain ⟨l, D, cI, cZ⟩ := E
  obtain ⟨p, e, R, s, m, args, below, meth, c, Q, A, nL⟩ := X
  obtain ⟨hx, hb, hml, hown, hts, hK, hA, hR, hnL, hlk⟩ := F
  subst hR
  subst hnL
  intro H locs ls hP hD hS hl
  exact lv_if_eq hx hb hdg ht (fun h => kt h H locs ls hP hD hS hl) (fun h => kf h H locs ls hP hD hS hl)

theorem g_icmp_eq (F : FX E X cc own rm nL0) {x y : Int32} {off : Int} (tgt : Nat) (hdg : decode cc pc = .ok (.if_icmp .eq off, 3)) (ht : (pc : Int) + off = (tgt : Int)) (kt : x = y → GW E X k n ws lv tgt st) (kf : ¬ x = y → GW E X k n ws lv (pc + 3) st) : GW E X k n ws lv pc (.int y :: .int x :: st) := by
  obtain ⟨l, D, cI, cZ⟩ := E
  obtain ⟨p, e, R, s, m, args, below, meth, c, Q, A, nL⟩ := X
  obtain ⟨hx, hb, hml, hown, hts, hK, hA, hR, hnL, hlk⟩ := F
  subst hR
  subst hnL
  intro H locs ls hP hD hS hl
  exact lv_icmp_eq hx hb hdg ht (fun h => kt h H locs ls hP hD hS hl) (fun h => kf h H locs ls hP hD hS hl)

theorem n_icmp_eq (F : FX E X cc own rm nL0) {a b : Nat} {off : Int} (tgt : Nat) (hdg : decode cc pc = .ok (.if_icmp .eq off, 3)) (ht : (pc : Int) + off = (tgt : Int)) (ha : a < 2 ^ 31) (hb2 : b < 2 ^ 31) (kt : a = b → GW E X k n ws lv tgt st) (kf : a ≠ b → GW E X k n ws lv (pc + 3) st) : GW E X k n ws lv pc (.int (nI b) :: .int (nI a) :: st) := by
  have q := nI_eq ha hb2
  exact g_icmp_eq F tgt hdg ht (fun h => kt (by rw [q] at h; omega)) (fun h => kf (by rw [q] at h; omega))

theorem g_if_ne (F : FX E X cc own rm nL0) {x : Int32} {off : Int} (tgt : Nat) (hdg : decode cc pc = .ok (.ifCond .ne off, 3)) (ht : (pc : Int) + off = (tgt : Int)) (kt : ¬ x = 0 → GW E X k n ws lv tgt st) (kf : x = 0 → GW E X k n ws lv (pc + 3) st) : GW E X k n ws lv pc (.int x :: st) := by
  obtain ⟨l, D, cI, cZ⟩ := E
  obtain ⟨p, e, R, s, m, args, below, meth, c, Q, A, nL⟩ := X
  obtain ⟨hx, hb, hml, hown, hts, hK, hA, hR, hnL, hlk⟩ := F
  subst hR
  subst hnL
  intro H locs ls hP hD hS hl
  exact lv_if_ne hx hb hdg ht (fun h => kt h H locs ls hP hD hS hl) (fun h => kf h H locs ls hP hD hS hl)

theorem g_icmp_ne (F : FX E X cc own rm nL0) {x y : Int32} {off : Int} (tgt : Nat) (hdg : decode cc pc = .ok (.if_icmp .ne off, 3)) (ht : (pc : Int) + off = (tgt : Int)) (kt : ¬ x = y → GW E X k n ws lv tgt st) (kf : x = y → GW E X k n ws lv (pc + 3) st) : GW E X k n ws lv pc (.int y :: .int x :: st) := by
  obtain ⟨l, D, cI, cZ⟩ := E
  obtain ⟨p, e, R, s, m, args, below, meth, c, Q, A, nL⟩ := X
  obtain ⟨hx, hb, hml, hown, hts, hK, hA, hR, hnL, hlk⟩ := F
  subst hR
  subst hnL
  intro H locs ls hP hD hS hl
  exact lv_icmp_ne hx hb hdg ht (fun h => kt h H locs ls hP hD hS hl) (fun h => kf h H locs ls hP hD hS hl)

theorem n_icmp_ne (F : FX E X cc own rm nL0) {a b : Nat} {off : Int} (tgt : Nat) (hdg : decode cc pc = .ok (.if_icmp .ne off, 3)) (ht : (pc : Int) + off = (tgt : Int)) (ha : a < 2 ^ 31) (hb2 : b < 2 ^ 31) (kt : a ≠ b → GW E X k n ws lv tgt st) (kf : a = b → GW E X k n ws lv (pc + 3) st) : GW E X k n ws lv pc (.int (nI b) :: .int (nI a) :: st) := by
  have q := nI_eq ha hb2
  exact g_icmp_ne F tgt hdg ht (fun h => kt (by rw [q] at h; omega)) (fun h => kf (by rw [q] at h; omega))

theorem g_if_lt (F : FX E X cc own rm nL0) {x : Int32} {off : Int} (tgt : Nat) (hdg : decode cc pc = .ok (.ifCond .lt off, 3)) (ht : (pc : Int) + off = (tgt : Int)) (kt : x < 0 → GW E X k n ws lv tgt st) (kf : ¬ x < 0 → GW E X k n ws lv (pc + 3) st) : GW E X k n ws lv pc (.int x :: st) := by
  obtain ⟨l, D, cI, cZ⟩ := E
  obtain ⟨p, e, R, s, m, args, below, meth, c, Q, A, nL⟩ := X
  obtain ⟨hx, hb, hml, hown, hts, hK, hA, hR, hnL, hlk⟩ := F
  subst hR
  subst hnL
  intro H locs ls hP hD hS hl
  exact lv_if_lt hx hb hdg ht (fun h => kt h H locs ls hP hD hS hl) (fun h => kf h H locs ls hP hD hS hl)

theorem g_icmp_lt (F : FX E X cc own rm nL0) {x y : Int32} {off : Int} (tgt : Nat) (hdg : decode cc pc = .ok (.if_icmp .lt off, 3)) (ht : (pc : Int) + off = (tgt : Int)) (kt : x < y → GW E X k n ws lv tgt st) (kf : ¬ x < y → GW E X k n ws lv (pc + 3) st) : GW E X k n ws lv pc (.int y :: .int x :: st) := by
  obtain ⟨l, D, cI, cZ⟩ := E
  obtain ⟨p, e, R, s, m, args, below, meth, c, Q, A, nL⟩ := X
  obtain ⟨hx, hb, hml, hown, hts, hK, hA, hR, hnL, hlk⟩ := F
  subst hR
  subst hnL
  intro H locs ls hP hD hS hl
  exact lv_icmp_lt hx hb hdg ht (fun h => kt h H locs ls hP hD hS hl) (fun h => kf h H locs ls hP hD hS hl)

theorem n_icmp_lt (F : FX E X cc own rm nL0) {a b : Nat} {off : Int} (tgt : Nat) (hdg : decode cc pc = .ok (.if_icmp .lt off, 3)) (ht : (pc : Int) + off = (tgt : Int)) (ha : a < 2 ^ 31) (hb2 : b < 2 ^ 31) (kt : a < b → GW E X k n ws lv tgt st) (kf : b ≤ a → GW E X k n ws lv (pc + 3) st) : GW E X k n ws lv pc (.int (nI b) :: .int (nI a) :: st) := by
  have q := nI_ltI ha hb2
  exact g_icmp_lt F tgt hdg ht (fun h => kt (by rw [q] at h; omega)) (fun h => kf (by rw [q] at h; omega))

theorem g_if_ge (F : FX E X cc own rm nL0) {x : Int32} {off : Int} (tgt : Nat) (hdg : decode cc pc = .ok (.ifCond .ge off, 3)) (ht : (pc : Int) + off = (tgt : Int)) (kt : 0 ≤ x → GW E X k n ws lv tgt st) (kf : ¬ 0 ≤ x → GW E X k n ws lv (pc + 3) st) : GW E X k n ws lv pc (.int x :: st) := by
  obtain ⟨l, D, cI, cZ⟩ := E
  obtain ⟨p, e, R, s, m, args, below, meth, c, Q, A, nL⟩ := X
  obtain ⟨hx, hb, hml, hown, hts, hK, hA, hR, hnL, hlk⟩ := F
  subst hR
  subst hnL
  intro H locs ls hP hD hS hl
  exact lv_if_ge hx hb hdg ht (fun h => kt h H locs ls hP hD hS hl) (fun h => kf h H locs ls hP hD hS hl)

theorem g_icmp_ge (F : FX E X cc own rm nL0) {x y : Int32} {off : Int} (tgt : Nat) (hdg : decode cc pc = .ok (.if_icmp .ge off, 3)) (ht : (pc : Int) + off = (tgt : Int)) (kt : y ≤ x → GW E X k n ws lv tgt st) (kf : ¬ y ≤ x → GW E X k n ws lv (pc + 3) st) : GW E X k n ws lv pc (.int y :: .int x :: st) := by
  obtain ⟨l, D, cI, cZ⟩ := E
  obtain ⟨p, e, R, s, m, args, below, meth, c, Q, A, nL⟩ := X
  obtain ⟨hx, hb, hml, hown, hts, hK, hA, hR, hnL, hlk⟩ := F
  subst hR
  subst hnL
  intro H locs ls hP hD hS hl
  exact lv_icmp_ge hx hb hdg ht (fun h => kt h H locs ls hP hD hS hl) (fun h => kf h H locs ls hP hD hS hl)

theorem n_icmp_ge (F : FX E X cc own rm nL0) {a b : Nat} {off : Int} (tgt : Nat) (hdg : decode cc pc = .ok (.if_icmp .ge off, 3)) (ht : (pc : Int) + off = (tgt : Int)) (ha : a < 2 ^ 31) (hb2 : b < 2 ^ 31) (kt : b ≤ a → GW E X k n ws lv tgt st) (kf : a < b → GW E X k n ws lv (pc + 3) st) : GW E X k n ws lv pc (.int (nI b) :: .int (nI a) :: st) := by
  have q := nI_leI hb2 ha
  exact g_icmp_ge F tgt hdg ht (fun h => kt (by rw [q] at h; omega)) (fun h => kf (by rw [q] at h; omega))

theorem g_if_gt (F : FX E X cc own rm nL0) {x : Int32} {off : Int} (tgt : Nat) (hdg : decode cc pc = .ok (.ifCond .gt off, 3)) (ht : (pc : Int) + off = (tgt : Int)) (kt : 0 < x → GW E X k n ws lv tgt st) (kf : ¬ 0 < x → GW E X k n ws lv (pc + 3) st) : GW E X k n ws lv pc (.int x :: st) := by
  obtain ⟨l, D, cI, cZ⟩ := E
  obtain ⟨p, e, R, s, m, args, below, meth, c, Q, A, nL⟩ := X
  obtain ⟨hx, hb, hml, hown, hts, hK, hA, hR, hnL, hlk⟩ := F
  subst hR
  subst hnL
  intro H locs ls hP hD hS hl
  exact lv_if_gt hx hb hdg ht (fun h => kt h H locs ls hP hD hS hl) (fun h => kf h H locs ls hP hD hS hl)

theorem g_icmp_gt (F : FX E X cc own rm nL0) {x y : Int32} {off : Int} (tgt : Nat) (hdg : decode cc pc = .ok (.if_icmp .gt off, 3)) (ht : (pc : Int) + off = (tgt : Int)) (kt : y < x → GW E X k n ws lv tgt st) (kf : ¬ y < x → GW E X k n ws lv (pc + 3) st) : GW E X k n ws lv pc (.int y :: .int x :: st) := by
  obtain ⟨l, D, cI, cZ⟩ := E
  obtain ⟨p, e, R, s, m, args, below, meth, c, Q, A, nL⟩ := X
  obtain ⟨hx, hb, hml, hown, hts, hK, hA, hR, hnL, hlk⟩ := F
  subst hR
  subst hnL
  intro H locs ls hP hD hS hl
  exact lv_icmp_gt hx hb hdg ht (fun h => kt h H locs ls hP hD hS hl) (fun h => kf h H locs ls hP hD hS hl)

theorem n_icmp_gt (F : FX E X cc own rm nL0) {a b : Nat} {off : Int} (tgt : Nat) (hdg : decode cc pc = .ok (.if_icmp .gt off, 3)) (ht : (pc : Int) + off = (tgt : Int)) (ha : a < 2 ^ 31) (hb2 : b < 2 ^ 31) (kt : b < a → GW E X k n ws lv tgt st) (kf : a ≤ b → GW E X k n ws lv (pc + 3) st) : GW E X k n ws lv pc (.int (nI b) :: .int (nI a) :: st) := by
  have q := nI_ltI hb2 ha
  exact g_icmp_gt F tgt hdg ht (fun h => kt (by rw [q] at h; omega)) (fun h => kf (by rw [q] at h; omega))

theorem g_if_le (F : FX E X cc own rm nL0) {x : Int32} {off : Int} (tgt : Nat) (hdg : decode cc pc = .ok (.ifCond .le off, 3)) (ht : (pc : Int) + off = (tgt : Int)) (kt : x ≤ 0 → GW E X k n ws lv tgt st) (kf : ¬ x ≤ 0 → GW E X k n ws lv (pc + 3) st) : GW E X k n ws lv pc (.int x :: st) := by
  obtain ⟨l, D, cI, cZ⟩ := E
  obtain ⟨p, e, R, s, m, args, below, meth, c, Q, A, nL⟩ := X
  obtain ⟨hx, hb, hml, hown, hts, hK, hA, hR, hnL, hlk⟩ := F
  subst hR
  subst hnL
  intro H locs ls hP hD hS hl
  exact lv_if_le hx hb hdg ht (fun h => kt h H locs ls hP hD hS hl) (fun h => kf h H locs ls hP hD hS hl)

theorem g_icmp_le (F : FX E X cc own rm nL0) {x y : Int32} {off : Int} (tgt : Nat) (hdg : decode cc pc = .ok (.if_icmp .le off, 3)) (ht : (pc : Int) + off = (tgt : Int)) (kt : x ≤ y → GW E X k n ws lv tgt st) (kf : ¬ x ≤ y → GW E X k n ws lv (pc + 3) st) : GW E X k n ws lv pc (.int y :: .int x :: st) := by
  obtain ⟨l, D, cI, cZ⟩ := E
  obtain ⟨p, e, R, s, m, args, below, meth, c, Q, A, nL⟩ := X
  obtain ⟨hx, hb, hml, hown, hts, hK, hA, hR, hnL, hlk⟩ := F
  subst hR
  subst hnL
  intro H locs ls hP hD hS hl
  exact lv_icmp_le hx hb hdg ht (fun h => kt h H locs ls hP hD hS hl) (fun h => kf h H locs ls hP hD hS hl)

theorem n_icmp_le (F : FX E X cc own rm nL0) {a b : Nat} {off : Int} (tgt : Nat) (hdg : decode cc pc = .ok (.if_icmp .le off, 3)) (ht : (pc : Int) + off = (tgt : Int)) (ha : a < 2 ^ 31) (hb2 : b < 2 ^ 31) (kt : a ≤ b → GW E X k n ws lv tgt st) (kf : b < a → GW E X k n ws lv (pc + 3) st) : GW E X k n ws lv pc (.int (nI b) :: .int (nI a) :: st) := by
  have q := nI_leI ha hb2
  exact g_icmp_le F tgt hdg ht (fun h => kt (by rw [q] at h; omega)) (fun h => kf (by rw [q] at h; omega))

theorem n_add (F : FX E X cc own rm nL0) {a b : Nat}  (hdg : decode cc pc = .ok (.iadd, 1)) (kk : GW E X k n ws lv (pc + 1) (.int (nI (a + b)) :: st)) : GW E X k n ws lv pc (.int (nI b) :: .int (nI a) :: st) := by
  refine g_iadd F hdg ?_
  rw [nI_add a b]
  exact kk

theorem n_sub (F : FX E X cc own rm nL0) {a b : Nat} (h : b ≤ a) (hdg : decode cc pc = .ok (.isub, 1)) (kk : GW E X k n ws lv (pc + 1) (.int (nI (a - b)) :: st)) : GW E X k n ws lv pc (.int (nI b) :: .int (nI a) :: st) := by
  refine g_isub F hdg ?_
  rw [pk_sub h]
  exact kk

theorem n_mul (F : FX E X cc own rm nL0) {a b : Nat}  (hdg : decode cc pc = .ok (.imul, 1)) (kk : GW E X k n ws lv (pc + 1) (.int (nI (a * b)) :: st)) : GW E X k n ws lv pc (.int (nI b) :: .int (nI a) :: st) := by
  refine g_imul F hdg ?_
  rw [pk_mul a b]
  exact kk

theorem n_div (F : FX E X cc own rm nL0) {a b : Nat} (ha : a < 2 ^ 31) (h0 : 0 < b) (hb2 : b < 2 ^ 31) (hdg : decode cc pc = .ok (.idiv, 1)) (kk : GW E X k n ws lv (pc + 1) (.int (nI (a / b)) :: st)) : GW E X k n ws lv pc (.int (nI b) :: .int (nI a) :: st) := by
  refine g_idiv F (nI_ne0 h0 hb2) hdg ?_
  rw [pk_div ha h0 hb2]
  exact kk

theorem n_rem (F : FX E X cc own rm nL0) {a b : Nat} (ha : a < 2 ^ 31) (h0 : 0 < b) (hb2 : b < 2 ^ 31) (hdg : decode cc pc = .ok (.irem, 1)) (kk : GW E X k n ws lv (pc + 1) (.int (nI (a % b)) :: st)) : GW E X k n ws lv pc (.int (nI b) :: .int (nI a) :: st) := by
  refine g_irem F (nI_ne0 h0 hb2) hdg ?_
  rw [pk_rem ha h0 hb2]
  exact kk

theorem n_inc (a : Nat) : nI a + Int32.ofInt 1 = nI (a + 1) := nI_1 a
theorem n_dec (a : Nat) : nI (a + 1) + Int32.ofInt (-1) = nI a := pk_m1 a
/-- the top of the stack under another name -/
theorem g_top (x : Int32) {y : Int32} (h : y = x) (kk : GW E X k n ws lv pc (.int x :: st)) : GW E X k n ws lv pc (.int y :: st) := h ▸ kk
theorem g_topl (x : Int64) {y : Int64} (h : y = x) (kk : GW E X k n ws lv pc (.long x :: st)) : GW E X k n ws lv pc (.long y :: st) := h ▸ kk
theorem g_ws (ws' : va_W) (h : ws = ws') (kk : GW E X k n ws' lv pc st) : GW E X k n ws lv pc st := h ▸ kk
theorem g_lv (ks : List Nat) (lv' : List (Nat × Value)) (h : lv_pick lv ks = lv') (kk : GW E X k n ws lv' pc st) : GW E X k n ws lv pc st := by
  obtain ⟨l, D, cI, cZ⟩ := E
  obtain ⟨p, e, R, s, m, args, below, meth, c, Q, A, nL⟩ := X
  intro H locs ls hP hD hS hl
  exact kk H locs ls hP hD hS (lv_sub hl ks h)

theorem g_iald (F : FX E X cc own rm nL0) {a N j : Nat} {f : Nat → Int32} (q0 : Nat) (hq : ws[q0]? = some (ia E a N f)) (hj : j < N) (hN : N < 2 ^ 31) (hdg : decode cc pc = .ok (.iaload, 1)) (kk : GW E X k n ws lv (pc + 1) (.int (f j) :: st)) : GW E X k n ws lv pc (.int (nI j) :: .ref a :: st) := by
  obtain ⟨l, D, cI, cZ⟩ := E
  obtain ⟨p, e, R, s, m, args, below, meth, c, Q, A, nL⟩ := X
  obtain ⟨hx, hb, hml, hown, hts, hK, hA, hR, hnL, hlk⟩ := F
  subst hR
  subst hnL
  intro H locs ls hP hD hS hl
  exact va_iald hx hb hK hP q0 0 hq rfl (vp_in_nI hj hN) hdg (by rw [nI_clamp (Nat.lt_trans hj hN)]; exact kk H locs ls hP hD hS hl)

theorem g_iast (F : FX E X cc own rm nL0) {a N j : Nat} {f : Nat → Int32} {x : Int32} (q0 : Nat) (ws' : va_W) (hq : ws[q0]? = some (ia E a N f)) (hj : j < N) (hN : N < 2 ^ 31) (hw : ws.set q0 (ia E a N (upd f j x)) = ws') (hdg : decode cc pc = .ok (.iastore, 1)) (kk : GW E X k n ws' lv (pc + 1) st) : GW E X k n ws lv pc (.int x :: .int (nI j) :: .ref a :: st) := by
  subst hw
  obtain ⟨l, D, cI, cZ⟩ := E
  obtain ⟨p, e, R, s, m, args, below, meth, c, Q, A, nL⟩ := X
  obtain ⟨hx, hb, hml, hown, hts, hK, hA, hR, hnL, hlk⟩ := F
  subst hR
  subst hnL
  intro H locs ls hP hD hS hl
  refine va_iast hx hb hK hP hD hS q0 0 hq rfl (vp_in_nI hj hN) hdg (fun H1 locs1 hP1 hD1 hS1 => ?_)
  rw [nI_clamp (Nat.lt_trans hj hN)] at hP1 hD1
  exact kk H1 locs1 ls hP1 hD1 hS1 hl

theorem g_zald (F : FX E X cc own rm nL0) {a N j : Nat} {f : Nat → Int32} (q0 : Nat) (hq : ws[q0]? = some (za E a N f)) (hj : j < N) (hN : N < 2 ^ 31) (hdg : decode cc pc = .ok (.baload, 1)) (kk : GW E X k n ws lv (pc + 1) (.int (f j) :: st)) : GW E X k n ws lv pc (.int (nI j) :: .ref a :: st) := by
  obtain ⟨l, D, cI, cZ⟩ := E
  obtain ⟨p, e, R, s, m, args, below, meth, c, Q, A, nL⟩ := X
  obtain ⟨hx, hb, hml, hown, hts, hK, hA, hR, hnL, hlk⟩ := F
  subst hR
  subst hnL
  intro H locs ls hP hD hS hl
  exact va_zald hx hb hK hP q0 1 hq rfl (vp_in_nI hj hN) hdg (by rw [nI_clamp (Nat.lt_trans hj hN)]; exact kk H locs ls hP hD hS hl)

theorem g_zast (F : FX E X cc own rm nL0) {a N j : Nat} {f : Nat → Int32} {x : Int32} (q0 : Nat) (ws' : va_W) (hq : ws[q0]? = some (za E a N f)) (hj : j < N) (hN : N < 2 ^ 31) (hz : x = 0 ∨ x = 1) (hw : ws.set q0 (za E a N (upd f j x)) = ws') (hdg : decode cc pc = .ok (.bastore, 1)) (kk : GW E X k n ws' lv (pc + 1) st) : GW E X k n ws lv pc (.int x :: .int (nI j) :: .ref a :: st) := by
  subst hw
  obtain ⟨l, D, cI, cZ⟩ := E
  obtain ⟨p, e, R, s, m, args, below, meth, c, Q, A, nL⟩ := X
  obtain ⟨hx, hb, hml, hown, hts, hK, hA, hR, hnL, hlk⟩ := F
  subst hR
  subst hnL
  intro H locs ls hP hD hS hl
  have hnz : vp_nar .boolean x = x := by rcases hz with rfl | rfl <;> rfl
  refine va_zast hx hb hK hP hD hS q0 1 hq rfl (vp_in_nI hj hN) hdg (fun H1 locs1 hP1 hD1 hS1 => ?_)
  rw [nI_clamp (Nat.lt_trans hj hN)] at hP1 hD1
  rw [hnz] at hP1 hD1
  exact kk H1 locs1 ls hP1 hD1 hS1 hl

theorem g_alen (F : FX E X cc own rm nL0) {a N : Nat} {f : Nat → Int32} (q0 : Nat) (hq : ws[q0]? = some (ia E a N f)) (hdg : decode cc pc = .ok (.arraylength, 1)) (kk : GW E X k n ws lv (pc + 1) (.int (nI N) :: st)) : GW E X k n ws lv pc (.ref a :: st) := by
  obtain ⟨l, D, cI, cZ⟩ := E
  obtain ⟨p, e, R, s, m, args, below, meth, c, Q, A, nL⟩ := X
  obtain ⟨hx, hb, hml, hown, hts, hK, hA, hR, hnL, hlk⟩ := F
  subst hR
  subst hnL
  intro H locs ls hP hD hS hl
  exact va_alen hx hb hK hP q0 0 hq (ty := .int) rfl rfl hdg (kk H locs ls hP hD hS hl)
theorem g_get (F : FX E X cc own rm nL0) {C : String} {T : u_T} {N a index : Nat} {fs : List Value} {v : Value} (ci q0 kf : Nat) (hin : ∀ w ∈ u_ws C T N, w ∈ lw_g) (hc : vwCl[ci]? = some (C, T, N)) (hq : ws[q0]? = some (ob a ci fs)) (hk : kf < N) (hlink : Cond.fieldLink own index (T kf).1 (T kf).2.1 (T kf).2.2.1 ∈ lw_g) (hv : fs[kf]? = some v) (hdg : decode cc pc = .ok (.getfield index, 3)) (kk : GW E X k n ws lv (pc + 3) (v :: st)) : GW E X k n ws lv pc (.ref a :: st) := by
  obtain ⟨l, D, cI, cZ⟩ := E
  obtain ⟨p, e, R, s, m, args, below, meth, c, Q, A, nL⟩ := X
  obtain ⟨hx, hb, hml, hown, hts, hK, hA, hR, hnL, hlk⟩ := F
  subst hR
  subst hnL
  intro H locs ls hP hD hS hl
  exact va_get hx hb hts hin hown hK hP q0 hq hc kf hk (hts _ hlink) (fun _ h9 => h9) hv hdg (kk H locs ls hP hD hS hl)
theorem g_put (F : FX E X cc own rm nL0) {C : String} {T : u_T} {N a index : Nat} {fs : List Value} {v : Value} {ty0 : Nat → FieldType} {ty : FieldType} (ci q0 kf : Nat) (ws' : va_W) (hin : ∀ w ∈ u_ws C T N, w ∈ lw_g) (hty : ∀ k, k < N → parseFieldDescriptor (T k).2.2.1 = some (ty0 k)) (hnm : ∀ a, a < N → ∀ b, b < N → a ≠ b → (T a).2.1 ≠ (T b).2.1) (hc : vwCl[ci]? = some (C, T, N)) (hq : ws[q0]? = some (ob a ci fs)) (hk : kf < N) (hlink : Cond.fieldLink own index (T kf).1 (T kf).2.1 (T kf).2.2.1 ∈ lw_g) (hfin : (T kf).2.2.2 = false) (hd : ty0 kf = ty) (hn : narrow ty v = v) (hfit : fits ty v = true) (hlen : kf < fs.length) (hw : ws.set q0 (ob a ci (fs.set kf v)) = ws') (hdg : decode cc pc = .ok (.putfield index, 3)) (kk : GW E X k n ws' lv (pc + 3) st) : GW E X k n ws lv pc (v :: .ref a :: st) := by
  subst hw
  obtain ⟨l, D, cI, cZ⟩ := E
  obtain ⟨p, e, R, s, m, args, below, meth, c, Q, A, nL⟩ := X
  obtain ⟨hx, hb, hml, hown, hts, hK, hA, hR, hnL, hlk⟩ := F
  subst hR
  subst hnL
  intro H locs ls hP hD hS hl
  exact va_put hx hb hts hin ty0 hty hnm hown hK hP hD hS q0 hq hc kf hk (hts _ hlink) (fun _ h9 => h9) hfin (by rw [← hd]; exact hty kf hk) hn hfit hlen hdg (fun H1 locs1 hP1 hD1 hS1 => kk H1 locs1 ls hP1 hD1 hS1 hl)

theorem g_mmax (F : FX E X cc own rm nL0) {x y : Int32} {index : Nat} (hlink : Cond.methodLink own index Lib.Math.max.name ∈ lw_g) (hfr : 1 ≤ rm.frames) (hlo : (st.map fun v => v.category).sum + 13 ≤ rm.locals) (hc : k ≤ rm.cells) (hs : n ≤ rm.slots) (hdg : decode cc pc = .ok (.invokestatic index, 3)) (kk : GW E X k n ws lv (pc + 3) (.int (if x < y then y else x) :: st)) : GW E X k n ws lv pc (.int y :: .int x :: st) := by
  obtain ⟨l, D, cI, cZ⟩ := E
  obtain ⟨p, e, R, s, m, args, below, meth, c, Q, A, nL⟩ := X
  obtain ⟨hx, hb, hml, hown, hts, hK, hA, hR, hnL, hlk⟩ := F
  subst hR
  subst hnL
  intro H locs ls hP hD hS hl
  exact va_mmax hx hb (hml.trans hl.1.symm) hown (hts _ hlink) (hts _ tw_sm_Lib_Math_max_name) (hts _ tw_in_J9) (hts _ tw_co_Lib_Math_max_name) hfr hlo hc hs hdg (kk H locs ls hP hD hS hl)

theorem g_mmin (F : FX E X cc own rm nL0) {x y : Int32} {index : Nat} (hlink : Cond.methodLink own index Lib.Math.min.name ∈ lw_g) (hfr : 1 ≤ rm.frames) (hlo : (st.map fun v => v.category).sum + 13 ≤ rm.locals) (hc : k ≤ rm.cells) (hs : n ≤ rm.slots) (hdg : decode cc pc = .ok (.invokestatic index, 3)) (kk : GW E X k n ws lv (pc + 3) (.int (if y < x then y else x) :: st)) : GW E X k n ws lv pc (.int y :: .int x :: st) := by
  obtain ⟨l, D, cI, cZ⟩ := E
  obtain ⟨p, e, R, s, m, args, below, meth, c, Q, A, nL⟩ := X
  obtain ⟨hx, hb, hml, hown, hts, hK, hA, hR, hnL, hlk⟩ := F
  subst hR
  subst hnL
  intro H locs ls hP hD hS hl
  exact va_mmin hx hb (hml.trans hl.1.symm) hown (hts _ hlink) (hts _ tw_sm_Lib_Math_min_name) (hts _ tw_in_J9) (hts _ tw_co_Lib_Math_min_name) hfr hlo hc hs hdg (kk H locs ls hP hD hS hl)

theorem g_mabs (F : FX E X cc own rm nL0) {x : Int32} {index : Nat} (hlink : Cond.methodLink own index Lib.Math.abs.name ∈ lw_g) (hfr : 1 ≤ rm.frames) (hlo : (st.map fun v => v.category).sum + 13 ≤ rm.locals) (hc : k ≤ rm.cells) (hs : n ≤ rm.slots) (hdg : decode cc pc = .ok (.invokestatic index, 3)) (kk : GW E X k n ws lv (pc + 3) (.int (if 0 ≤ x then x else 0 - x) :: st)) : GW E X k n ws lv pc (.int x :: st) := by
  obtain ⟨l, D, cI, cZ⟩ := E
  obtain ⟨p, e, R, s, m, args, below, meth, c, Q, A, nL⟩ := X
  obtain ⟨hx, hb, hml, hown, hts, hK, hA, hR, hnL, hlk⟩ := F
  subst hR
  subst hnL
  intro H locs ls hP hD hS hl
  exact va_mabs hx hb (hml.trans hl.1.symm) hown (hts _ hlink) (hts _ tw_sm_Lib_Math_abs_name) (hts _ tw_in_J9) (hts _ tw_co_Lib_Math_abs_name) hfr hlo hc hs hdg (kk H locs ls hP hD hS hl)
theorem n_max (a b : Nat) (ha : a < 2 ^ 31) (hb : b < 2 ^ 31) : (if nI a < nI b then nI b else nI a) = nI (Nat.max a b) := by
  simp only [nI_ltI ha hb]
  split
  · rw [show Nat.max a b = b from Nat.max_eq_right (by omega)]
  · rw [show Nat.max a b = a from Nat.max_eq_left (by omega)]
theorem n_min (a b : Nat) (ha : a < 2 ^ 31) (hb : b < 2 ^ 31) : (if nI b < nI a then nI b else nI a) = nI (Nat.min a b) := by
  simp only [nI_ltI hb ha]
  split
  · rw [show Nat.min a b = b from Nat.min_eq_right (by omega)]
  · rw [show Nat.min a b = a from Nat.min_eq_left (by omega)]

theorem n_if_eq (F : FX E X cc own rm nL0) {a : Nat} {off : Int} (tgt : Nat) (hdg : decode cc pc = .ok (.ifCond .eq off, 3)) (ht : (pc : Int) + off = (tgt : Int)) (ha : a < 2 ^ 31) (kt : a = 0 → GW E X k n ws lv tgt st) (kf : a ≠ 0 → GW E X k n ws lv (pc + 3) st) : GW E X k n ws lv pc (.int (nI a) :: st) := by
  have q := nI_eq ha (by decide : 0 < 2 ^ 31)
  rw [nI_0] at q
  exact g_if_eq F tgt hdg ht (fun h => kt (q.mp h)) (fun h => kf (fun z => h (q.mpr z)))

theorem n_if_ne (F : FX E X cc own rm nL0) {a : Nat} {off : Int} (tgt : Nat) (hdg : decode cc pc = .ok (.ifCond .ne off, 3)) (ht : (pc : Int) + off = (tgt : Int)) (ha : a < 2 ^ 31) (kt : a ≠ 0 → GW E X k n ws lv tgt st) (kf : a = 0 → GW E X k n ws lv (pc + 3) st) : GW E X k n ws lv pc (.int (nI a) :: st) := by
  have q := nI_eq ha (by decide : 0 < 2 ^ 31)
  rw [nI_0] at q
  exact g_if_ne F tgt hdg ht (fun h => kt (fun z => h (q.mpr z))) (fun h => kf (q.mp h))

theorem n_if_lt (F : FX E X cc own rm nL0) {a : Nat} {off : Int} (tgt : Nat) (hdg : decode cc pc = .ok (.ifCond .lt off, 3)) (ht : (pc : Int) + off = (tgt : Int)) (ha : a < 2 ^ 31) (kt : False → GW E X k n ws lv tgt st) (kf : True → GW E X k n ws lv (pc + 3) st) : GW E X k n ws lv pc (.int (nI a) :: st) := by
  have q := nI_ltI ha (by decide : 0 < 2 ^ 31)
  rw [nI_0] at q
  exact g_if_lt F tgt hdg ht (fun h => kt (absurd (q.mp h) (Nat.not_lt_zero a))) (fun h => kf (trivial))

theorem n_if_ge (F : FX E X cc own rm nL0) {a : Nat} {off : Int} (tgt : Nat) (hdg : decode cc pc = .ok (.ifCond .ge off, 3)) (ht : (pc : Int) + off = (tgt : Int)) (ha : a < 2 ^ 31) (kt : True → GW E X k n ws lv tgt st) (kf : False → GW E X k n ws lv (pc + 3) st) : GW E X k n ws lv pc (.int (nI a) :: st) := by
  have q := nI_leI (by decide : 0 < 2 ^ 31) ha
  rw [nI_0] at q
  exact g_if_ge F tgt hdg ht (fun h => kt (trivial)) (fun h => kf (h (q.mpr (Nat.zero_le a))))

theorem n_if_gt (F : FX E X cc own rm nL0) {a : Nat} {off : Int} (tgt : Nat) (hdg : decode cc pc = .ok (.ifCond .gt off, 3)) (ht : (pc : Int) + off = (tgt : Int)) (ha : a < 2 ^ 31) (kt : 0 < a → GW E X k n ws lv tgt st) (kf : a = 0 → GW E X k n ws lv (pc + 3) st) : GW E X k n ws lv pc (.int (nI a) :: st) := by
  have q := nI_ltI (by decide : 0 < 2 ^ 31) ha
  rw [nI_0] at q
  exact g_if_gt F tgt hdg ht (fun h => kt (q.mp h)) (fun h => kf (Nat.eq_zero_of_not_pos (fun z => h (q.mpr z))))

theorem n_if_le (F : FX E X cc own rm nL0) {a : Nat} {off : Int} (tgt : Nat) (hdg : decode cc pc = .ok (.ifCond .le off, 3)) (ht : (pc : Int) + off = (tgt : Int)) (ha : a < 2 ^ 31) (kt : a = 0 → GW E X k n ws lv tgt st) (kf : 0 < a → GW E X k n ws lv (pc + 3) st) : GW E X k n ws lv pc (.int (nI a) :: st) := by
  have q := nI_leI ha (by decide : 0 < 2 ^ 31)
  rw [nI_0] at q
  exact g_if_le F tgt hdg ht (fun h => kt (Nat.eq_zero_of_le_zero (q.mp h))) (fun h => kf (Nat.pos_of_ne_zero (fun z => h (q.mpr (Nat.le_of_eq z)))))

theorem g_tabIn (F : FX E X cc own rm nL0) {x : Int32} {dflt lo hi : Int} {offs : Array Int} {len : Nat} (tgt : Nat) (off : Int) (hdg : decode cc pc = .ok (.tableswitch dflt lo hi offs, len)) (h1 : ¬ x.toInt < lo) (h2 : ¬ hi < x.toInt) (ho : offs[(x.toInt - lo).toNat]? = some off) (ht : (pc : Int) + off = (tgt : Int)) (kk : GW E X k n ws lv tgt st) : GW E X k n ws lv pc (.int x :: st) := by
  obtain ⟨l, D, cI, cZ⟩ := E
  obtain ⟨p, e, R, s, m, args, below, meth, c, Q, A, nL⟩ := X
  obtain ⟨hx, hb, hml, hown, hts, hK, hA, hR, hnL, hlk⟩ := F
  subst hR
  subst hnL
  intro H locs ls hP hD hS hl
  exact lv_tableIn hx hb hdg h1 h2 ho ht (kk H locs ls hP hD hS hl)
theorem g_tabOut (F : FX E X cc own rm nL0) {x : Int32} {dflt lo hi : Int} {offs : Array Int} {len : Nat} (tgt : Nat) (hdg : decode cc pc = .ok (.tableswitch dflt lo hi offs, len)) (h : x.toInt < lo ∨ hi < x.toInt) (ht : (pc : Int) + dflt = (tgt : Int)) (kk : GW E X k n ws lv tgt st) : GW E X k n ws lv pc (.int x :: st) := by
  obtain ⟨l, D, cI, cZ⟩ := E
  obtain ⟨p, e, R, s, m, args, below, meth, c, Q, A, nL⟩ := X
  obtain ⟨hx, hb, hml, hown, hts, hK, hA, hR, hnL, hlk⟩ := F
  subst hR
  subst hnL
  intro H locs ls hP hD hS hl
  exact lv_tableOut hx hb hdg h ht (kk H locs ls hP hD hS hl)

theorem g_cVi (F : FX E X cc own rm nL0) {S : Type} {post : Int32 → S → Prop} {w1 : S → va_W} {y : MethodName} {bytes : ByteArray} {maxL index : Nat} {ret : Option FieldType} {rmc : Room} {C : String} {T : u_T} {N b : Nat} {fs : List Value} {As : List Value} {wc wr : va_W} (rest : List Value)
    (hM : CTi E y (wq y bytes maxL ret) rmc (.ref b :: As) wc post w1) (hG : GoodIn lw_g (wsV own index C y (wq y bytes maxL ret))) (na : Nat) (hna : As.length = na) (hd : y.cls = C ∧ y.cls ≠ "java/lang/invoke/MethodHandle" ∧ y.cls ≠ "java/lang/invoke/VarHandle" ∧ (parseMethodDescriptor y.desc).map (fun d => d.parameters.length) = some na) (hR : rmc.cells = 0 ∧ rmc.slots = 0 ∧ rmc.frames + 1 ≤ rm.frames ∧ 8 + (maxL + 11) + rmc.locals ≤ rm.locals ∧ k ≤ rm.cells ∧ n ≤ rm.slots) (ci q0 : Nat) (hc : vwCl[ci]? = some (C, T, N)) (hq : wc[q0]? = some (ob b ci fs)) (isC isR perm : List Nat) (wn : S → va_W) (hC : isC.map (fun i => ws[i]?) = wc.map some) (hRr : isR.map (fun i => ws[i]?) = wr.map some) (hn : (va_nd isC && va_nd isR && va_nd perm && isR.all (fun i => !isC.contains i)) = true) (hperm : ∀ u, perm.map (fun i => (wr ++ w1 u)[i]?) = (wn u).map some) (hs : st = As.reverse ++ .ref b :: rest) (hst : (rest.map fun v => v.category).sum ≤ 8) (hdg : decode cc pc = .ok (.invokevirtual index, 3))
    (kk : ∀ (r : Int32) (u : S), post r u → GW E X k n (wn u) lv (pc + 3) (.int r :: rest)) : GW E X k n ws lv pc st := by
  subst hs
  subst hna
  simp only [Bool.and_eq_true] at hn
  obtain ⟨⟨⟨hn1, hn2⟩, hn3⟩, hn4⟩ := hn
  have hdis : ∀ i ∈ isR, i ∉ isC := fun i h z => by
    have := List.all_eq_true.mp hn4 i h
    simp at this
    exact this z
  obtain ⟨l, D, cI, cZ⟩ := E
  obtain ⟨p, e, R, s, m, args, below, meth, c, Q, A, nL⟩ := X
  obtain ⟨hx, hb, hml, hown, hts, hK, hA, hR, hnL, hlk⟩ := F
  subst hR
  subst hnL
  intro H locs ls hP hD hS hl
  have hFc := va_free (wc := wc) hD hS hA isC hC
  have hPc : va_P D vwCl wc H := hP.sub isC (fm_of_map hC)
  have hDc := hD.sub isC hn1 hC
  have hpre : ∀ U : State, U.heap = H → s.WarmedH U.vm → PcW (l, D, cI, cZ) (.ref b :: As) wc H.size (.ref b :: As).toArray U := fun U hU hW => ⟨rfl, by rw [hU], by rw [hU]; exact hPc, va_K.moved hW.alike hK, hDc.weaken (fun _ _ _ _ => trivial)⟩
  refine va_calli (va_runV (As := As) (rest := rest) ⟨hx, hb, hml, hown, hts⟩ (hM H.size) (cwV As.length hts hG rfl hR.1 hR.2.1 hd ⟨hR.2.2.1, hR.2.2.2.1⟩) ⟨PcW.blind, va_recv hK hPc (ci := ci) (q0 := q0) hc hq, hpre⟩ rfl rfl hl.1 rfl (lv_room hst) hdg ⟨hR.2.2.2.2.1, hR.2.2.2.2.2⟩) hS (fun q _ h => hFc q h) hFc (fun r u t H1 locs1 ht hvm hw hB hz1 hk1 hS1 => ?_)
  obtain ⟨hP1, hK1, hD1⟩ := hB
  rw [ht] at hP1
  obtain ⟨hPn, hDn⟩ := cb_join hP hD isC isR perm hC hRr hn2 hdis hk1 hFc hP1 hD1 hn3 (hperm u)
  exact kk r u hw H1 locs1 ls hPn hDn hS1 hl

theorem g_cVl (F : FX E X cc own rm nL0) {S : Type} {post : Int64 → S → Prop} {w1 : S → va_W} {y : MethodName} {bytes : ByteArray} {maxL index : Nat} {ret : Option FieldType} {rmc : Room} {C : String} {T : u_T} {N b : Nat} {fs : List Value} {As : List Value} {wc wr : va_W} (rest : List Value)
    (hM : CTl E y (wq y bytes maxL ret) rmc (.ref b :: As) wc post w1) (hG : GoodIn lw_g (wsV own index C y (wq y bytes maxL ret))) (na : Nat) (hna : As.length = na) (hd : y.cls = C ∧ y.cls ≠ "java/lang/invoke/MethodHandle" ∧ y.cls ≠ "java/lang/invoke/VarHandle" ∧ (parseMethodDescriptor y.desc).map (fun d => d.parameters.length) = some na) (hR : rmc.cells = 0 ∧ rmc.slots = 0 ∧ rmc.frames + 1 ≤ rm.frames ∧ 8 + (maxL + 11) + rmc.locals ≤ rm.locals ∧ k ≤ rm.cells ∧ n ≤ rm.slots) (ci q0 : Nat) (hc : vwCl[ci]? = some (C, T, N)) (hq : wc[q0]? = some (ob b ci fs)) (isC isR perm : List Nat) (wn : S → va_W) (hC : isC.map (fun i => ws[i]?) = wc.map some) (hRr : isR.map (fun i => ws[i]?) = wr.map some) (hn : (va_nd isC && va_nd isR && va_nd perm && isR.all (fun i => !isC.contains i)) = true) (hperm : ∀ u, perm.map (fun i => (wr ++ w1 u)[i]?) = (wn u).map some) (hs : st = As.reverse ++ .ref b :: rest) (hst : (rest.map fun v => v.category).sum ≤ 8) (hdg : decode cc pc = .ok (.invokevirtual index, 3))
    (kk : ∀ (r : Int64) (u : S), post r u → GW E X k n (wn u) lv (pc + 3) (.long r :: rest)) : GW E X k n ws lv pc st := by
  subst hs
  subst hna
  simp only [Bool.and_eq_true] at hn
  obtain ⟨⟨⟨hn1, hn2⟩, hn3⟩, hn4⟩ := hn
  have hdis : ∀ i ∈ isR, i ∉ isC := fun i h z => by
    have := List.all_eq_true.mp hn4 i h
    simp at this
    exact this z
  obtain ⟨l, D, cI, cZ⟩ := E
  obtain ⟨p, e, R, s, m, args, below, meth, c, Q, A, nL⟩ := X
  obtain ⟨hx, hb, hml, hown, hts, hK, hA, hR, hnL, hlk⟩ := F
  subst hR
  subst hnL
  intro H locs ls hP hD hS hl
  have hFc := va_free (wc := wc) hD hS hA isC hC
  have hPc : va_P D vwCl wc H := hP.sub isC (fm_of_map hC)
  have hDc := hD.sub isC hn1 hC
  have hpre : ∀ U : State, U.heap = H → s.WarmedH U.vm → PcW (l, D, cI, cZ) (.ref b :: As) wc H.size (.ref b :: As).toArray U := fun U hU hW => ⟨rfl, by rw [hU], by rw [hU]; exact hPc, va_K.moved hW.alike hK, hDc.weaken (fun _ _ _ _ => trivial)⟩
  refine va_calll (va_runV (As := As) (rest := rest) ⟨hx, hb, hml, hown, hts⟩ (hM H.size) (cwV As.length hts hG rfl hR.1 hR.2.1 hd ⟨hR.2.2.1, hR.2.2.2.1⟩) ⟨PcW.blind, va_recv hK hPc (ci := ci) (q0 := q0) hc hq, hpre⟩ rfl rfl hl.1 rfl (lv_room hst) hdg ⟨hR.2.2.2.2.1, hR.2.2.2.2.2⟩) hS (fun q _ h => hFc q h) hFc (fun r u t H1 locs1 ht hvm hw hB hz1 hk1 hS1 => ?_)
  obtain ⟨hP1, hK1, hD1⟩ := hB
  rw [ht] at hP1
  obtain ⟨hPn, hDn⟩ := cb_join hP hD isC isR perm hC hRr hn2 hdis hk1 hFc hP1 hD1 hn3 (hperm u)
  exact kk r u hw H1 locs1 ls hPn hDn hS1 hl

theorem g_cVv (F : FX E X cc own rm nL0) {S : Type} {post : S → Prop} {w1 : S → va_W} {y : MethodName} {bytes : ByteArray} {maxL index : Nat} {ret : Option FieldType} {rmc : Room} {C : String} {T : u_T} {N b : Nat} {fs : List Value} {As : List Value} {wc wr : va_W} (rest : List Value)
    (hM : CTv E y (wq y bytes maxL ret) rmc (.ref b :: As) wc post w1) (hG : GoodIn lw_g (wsV own index C y (wq y bytes maxL ret))) (na : Nat) (hna : As.length = na) (hd : y.cls = C ∧ y.cls ≠ "java/lang/invoke/MethodHandle" ∧ y.cls ≠ "java/lang/invoke/VarHandle" ∧ (parseMethodDescriptor y.desc).map (fun d => d.parameters.length) = some na) (hR : rmc.cells = 0 ∧ rmc.slots = 0 ∧ rmc.frames + 1 ≤ rm.frames ∧ 8 + (maxL + 11) + rmc.locals ≤ rm.locals ∧ k ≤ rm.cells ∧ n ≤ rm.slots) (ci q0 : Nat) (hc : vwCl[ci]? = some (C, T, N)) (hq : wc[q0]? = some (ob b ci fs)) (isC isR perm : List Nat) (wn : S → va_W) (hC : isC.map (fun i => ws[i]?) = wc.map some) (hRr : isR.map (fun i => ws[i]?) = wr.map some) (hn : (va_nd isC && va_nd isR && va_nd perm && isR.all (fun i => !isC.contains i)) = true) (hperm : ∀ u, perm.map (fun i => (wr ++ w1 u)[i]?) = (wn u).map some) (hs : st = As.reverse ++ .ref b :: rest) (hst : (rest.map fun v => v.category).sum ≤ 8) (hdg : decode cc pc = .ok (.invokevirtual index, 3))
    (kk : ∀ (u : S), post u → GW E X k n (wn u) lv (pc + 3) (rest)) : GW E X k n ws lv pc st := by
  subst hs
  subst hna
  simp only [Bool.and_eq_true] at hn
  obtain ⟨⟨⟨hn1, hn2⟩, hn3⟩, hn4⟩ := hn
  have hdis : ∀ i ∈ isR, i ∉ isC := fun i h z => by
    have := List.all_eq_true.mp hn4 i h
    simp at this
    exact this z
  obtain ⟨l, D, cI, cZ⟩ := E
  obtain ⟨p, e, R, s, m, args, below, meth, c, Q, A, nL⟩ := X
  obtain ⟨hx, hb, hml, hown, hts, hK, hA, hR, hnL, hlk⟩ := F
  subst hR
  subst hnL
  intro H locs ls hP hD hS hl
  have hFc := va_free (wc := wc) hD hS hA isC hC
  have hPc : va_P D vwCl wc H := hP.sub isC (fm_of_map hC)
  have hDc := hD.sub isC hn1 hC
  have hpre : ∀ U : State, U.heap = H → s.WarmedH U.vm → PcW (l, D, cI, cZ) (.ref b :: As) wc H.size (.ref b :: As).toArray U := fun U hU hW => ⟨rfl, by rw [hU], by rw [hU]; exact hPc, va_K.moved hW.alike hK, hDc.weaken (fun _ _ _ _ => trivial)⟩
  refine va_callv (va_runV (As := As) (rest := rest) ⟨hx, hb, hml, hown, hts⟩ (hM H.size) (cwV As.length hts hG rfl hR.1 hR.2.1 hd ⟨hR.2.2.1, hR.2.2.2.1⟩) ⟨PcW.blind, va_recv hK hPc (ci := ci) (q0 := q0) hc hq, hpre⟩ rfl rfl hl.1 rfl (lv_room hst) hdg ⟨hR.2.2.2.2.1, hR.2.2.2.2.2⟩) hS (fun q _ h => hFc q h) hFc (fun u t H1 locs1 ht hvm hw hB hz1 hk1 hS1 => ?_)
  obtain ⟨hP1, hK1, hD1⟩ := hB
  rw [ht] at hP1
  obtain ⟨hPn, hDn⟩ := cb_join hP hD isC isR perm hC hRr hn2 hdis hk1 hFc hP1 hD1 hn3 (hperm u)
  exact kk u hw H1 locs1 ls hPn hDn hS1 hl

theorem g_cVr (F : FX E X cc own rm nL0) {S : Type} {post : S → Prop} {w1 : S → va_W} {y : MethodName} {bytes : ByteArray} {maxL index : Nat} {ret : Option FieldType} {rmc : Room} {C : String} {T : u_T} {N b : Nat} {fs : List Value} {ra : Nat} {As : List Value} {wc wr : va_W} (rest : List Value)
    (hM : CTr E y (wq y bytes maxL ret) rmc (.ref b :: As) wc ra post w1) (hG : GoodIn lw_g (wsV own index C y (wq y bytes maxL ret))) (na : Nat) (hna : As.length = na) (hd : y.cls = C ∧ y.cls ≠ "java/lang/invoke/MethodHandle" ∧ y.cls ≠ "java/lang/invoke/VarHandle" ∧ (parseMethodDescriptor y.desc).map (fun d => d.parameters.length) = some na) (hR : rmc.cells = 0 ∧ rmc.slots = 0 ∧ rmc.frames + 1 ≤ rm.frames ∧ 8 + (maxL + 11) + rmc.locals ≤ rm.locals ∧ k ≤ rm.cells ∧ n ≤ rm.slots) (ci q0 : Nat) (hc : vwCl[ci]? = some (C, T, N)) (hq : wc[q0]? = some (ob b ci fs)) (isC isR perm : List Nat) (wn : S → va_W) (hC : isC.map (fun i => ws[i]?) = wc.map some) (hRr : isR.map (fun i => ws[i]?) = wr.map some) (hn : (va_nd isC && va_nd isR && va_nd perm && isR.all (fun i => !isC.contains i)) = true) (hperm : ∀ u, perm.map (fun i => (wr ++ w1 u)[i]?) = (wn u).map some) (hs : st = As.reverse ++ .ref b :: rest) (hst : (rest.map fun v => v.category).sum ≤ 8) (hdg : decode cc pc = .ok (.invokevirtual index, 3))
    (kk : ∀ (u : S), post u → GW E X k n (wn u) lv (pc + 3) (.ref ra :: rest)) : GW E X k n ws lv pc st := by
  subst hs
  subst hna
  simp only [Bool.and_eq_true] at hn
  obtain ⟨⟨⟨hn1, hn2⟩, hn3⟩, hn4⟩ := hn
  have hdis : ∀ i ∈ isR, i ∉ isC := fun i h z => by
    have := List.all_eq_true.mp hn4 i h
    simp at this
    exact this z
  obtain ⟨l, D, cI, cZ⟩ := E
  obtain ⟨p, e, R, s, m, args, below, meth, c, Q, A, nL⟩ := X
  obtain ⟨hx, hb, hml, hown, hts, hK, hA, hR, hnL, hlk⟩ := F
  subst hR
  subst hnL
  intro H locs ls hP hD hS hl
  have hFc := va_free (wc := wc) hD hS hA isC hC
  have hPc : va_P D vwCl wc H := hP.sub isC (fm_of_map hC)
  have hDc := hD.sub isC hn1 hC
  have hpre : ∀ U : State, U.heap = H → s.WarmedH U.vm → PcW (l, D, cI, cZ) (.ref b :: As) wc H.size (.ref b :: As).toArray U := fun U hU hW => ⟨rfl, by rw [hU], by rw [hU]; exact hPc, va_K.moved hW.alike hK, hDc.weaken (fun _ _ _ _ => trivial)⟩
  refine va_callr (va_runV (As := As) (rest := rest) ⟨hx, hb, hml, hown, hts⟩ (hM H.size) (cwV As.length hts hG rfl hR.1 hR.2.1 hd ⟨hR.2.2.1, hR.2.2.2.1⟩) ⟨PcW.blind, va_recv hK hPc (ci := ci) (q0 := q0) hc hq, hpre⟩ rfl rfl hl.1 rfl (lv_room hst) hdg ⟨hR.2.2.2.2.1, hR.2.2.2.2.2⟩) hS (fun q _ h => hFc q h) hFc (fun u ra9 t H1 locs1 ht hvm hw hB hz1 hk1 hS1 => ?_)
  obtain ⟨rfl, hP1, hK1, hD1⟩ := hB
  rw [ht] at hP1
  obtain ⟨hPn, hDn⟩ := cb_join hP hD isC isR perm hC hRr hn2 hdis hk1 hFc hP1 hD1 hn3 (hperm u)
  exact kk u hw H1 locs1 ls hPn hDn hS1 hl

theorem g_cSi (F : FX E X cc own rm nL0) {S : Type} {post : Int32 → S → Prop} {w1 : S → va_W} {y : MethodName} {bytes : ByteArray} {maxL index : Nat} {ret : Option FieldType} {rmc : Room} {As : List Value} {wc wr : va_W} (rest : List Value)
    (hM : CTi E y (wq y bytes maxL ret) rmc As wc post w1) (hG : Cond.methodLink own index y ∈ lw_g ∧ Cond.static y ∈ lw_g ∧ Cond.initialized y.cls ∈ lw_g ∧ Cond.code y bytes maxL ret ∈ lw_g) (na : Nat) (hna : As.length = na) (hd : y.cls ≠ "java/lang/invoke/MethodHandle" ∧ y.cls ≠ "java/lang/invoke/VarHandle" ∧ (parseMethodDescriptor y.desc).map (fun d => d.parameters.length) = some na) (hR : rmc.cells = 0 ∧ rmc.slots = 0 ∧ rmc.frames + 1 ≤ rm.frames ∧ 8 + (maxL + 11) + rmc.locals ≤ rm.locals ∧ k ≤ rm.cells ∧ n ≤ rm.slots) (isC isR perm : List Nat) (wn : S → va_W) (hC : isC.map (fun i => ws[i]?) = wc.map some) (hRr : isR.map (fun i => ws[i]?) = wr.map some) (hn : (va_nd isC && va_nd isR && va_nd perm && isR.all (fun i => !isC.contains i)) = true) (hperm : ∀ u, perm.map (fun i => (wr ++ w1 u)[i]?) = (wn u).map some) (hs : st = As.reverse ++ rest) (hst : (rest.map fun v => v.category).sum ≤ 8) (hdg : decode cc pc = .ok (.invokestatic index, 3))
    (kk : ∀ (r : Int32) (u : S), post r u → GW E X k n (wn u) lv (pc + 3) (.int r :: rest)) : GW E X k n ws lv pc st := by
  subst hs
  subst hna
  simp only [Bool.and_eq_true] at hn
  obtain ⟨⟨⟨hn1, hn2⟩, hn3⟩, hn4⟩ := hn
  have hdis : ∀ i ∈ isR, i ∉ isC := fun i h z => by
    have := List.all_eq_true.mp hn4 i h
    simp at this
    exact this z
  obtain ⟨l, D, cI, cZ⟩ := E
  obtain ⟨p, e, R, s, m, args, below, meth, c, Q, A, nL⟩ := X
  obtain ⟨hx, hb, hml, hown, hts, hK, hA, hR, hnL, hlk⟩ := F
  subst hR
  subst hnL
  intro H locs ls hP hD hS hl
  have hFc := va_free (wc := wc) hD hS hA isC hC
  have hPc : va_P D vwCl wc H := hP.sub isC (fm_of_map hC)
  have hDc := hD.sub isC hn1 hC
  have hpre : ∀ U : State, U.heap = H → s.WarmedH U.vm → PcW (l, D, cI, cZ) As wc H.size As.toArray U := fun U hU hW => ⟨rfl, by rw [hU], by rw [hU]; exact hPc, va_K.moved hW.alike hK, hDc.weaken (fun _ _ _ _ => trivial)⟩
  refine va_calli (va_runS (As := As) (rest := rest) ⟨hx, hb, hml, hown, hts⟩ (hM H.size) ⟨callB_of As.length hts (gi_q hG.2.2.2) rfl hR.1 hR.2.1 (hts _ hG.2.2.1) (hts _ hG.1) hd ⟨hR.2.2.1, hR.2.2.2.1⟩, hts _ hG.2.1⟩ ⟨PcW.blind, hpre⟩ rfl rfl hl.1 rfl (lv_room hst) hdg ⟨hR.2.2.2.2.1, hR.2.2.2.2.2⟩) hS (fun q _ h => hFc q h) hFc (fun r u t H1 locs1 ht hvm hw hB hz1 hk1 hS1 => ?_)
  obtain ⟨hP1, hK1, hD1⟩ := hB
  rw [ht] at hP1
  obtain ⟨hPn, hDn⟩ := cb_join hP hD isC isR perm hC hRr hn2 hdis hk1 hFc hP1 hD1 hn3 (hperm u)
  exact kk r u hw H1 locs1 ls hPn hDn hS1 hl

theorem g_cSl (F : FX E X cc own rm nL0) {S : Type} {post : Int64 → S → Prop} {w1 : S → va_W} {y : MethodName} {bytes : ByteArray} {maxL index : Nat} {ret : Option FieldType} {rmc : Room} {As : List Value} {wc wr : va_W} (rest : List Value)
    (hM : CTl E y (wq y bytes maxL ret) rmc As wc post w1) (hG : Cond.methodLink own index y ∈ lw_g ∧ Cond.static y ∈ lw_g ∧ Cond.initialized y.cls ∈ lw_g ∧ Cond.code y bytes maxL ret ∈ lw_g) (na : Nat) (hna : As.length = na) (hd : y.cls ≠ "java/lang/invoke/MethodHandle" ∧ y.cls ≠ "java/lang/invoke/VarHandle" ∧ (parseMethodDescriptor y.desc).map (fun d => d.parameters.length) = some na) (hR : rmc.cells = 0 ∧ rmc.slots = 0 ∧ rmc.frames + 1 ≤ rm.frames ∧ 8 + (maxL + 11) + rmc.locals ≤ rm.locals ∧ k ≤ rm.cells ∧ n ≤ rm.slots) (isC isR perm : List Nat) (wn : S → va_W) (hC : isC.map (fun i => ws[i]?) = wc.map some) (hRr : isR.map (fun i => ws[i]?) = wr.map some) (hn : (va_nd isC && va_nd isR && va_nd perm && isR.all (fun i => !isC.contains i)) = true) (hperm : ∀ u, perm.map (fun i => (wr ++ w1 u)[i]?) = (wn u).map some) (hs : st = As.reverse ++ rest) (hst : (rest.map fun v => v.category).sum ≤ 8) (hdg : decode cc pc = .ok (.invokestatic index, 3))
    (kk : ∀ (r : Int64) (u : S), post r u → GW E X k n (wn u) lv (pc + 3) (.long r :: rest)) : GW E X k n ws lv pc st := by
  subst hs
  subst hna
  simp only [Bool.and_eq_true] at hn
  obtain ⟨⟨⟨hn1, hn2⟩, hn3⟩, hn4⟩ := hn
  have hdis : ∀ i ∈ isR, i ∉ isC := fun i h z => by
    have := List.all_eq_true.mp hn4 i h
    simp at this
    exact this z
  obtain ⟨l, D, cI, cZ⟩ := E
  obtain ⟨p, e, R, s, m, args, below, meth, c, Q, A, nL⟩ := X
  obtain ⟨hx, hb, hml, hown, hts, hK, hA, hR, hnL, hlk⟩ := F
  subst hR
  subst hnL
  intro H locs ls hP hD hS hl
  have hFc := va_free (wc := wc) hD hS hA isC hC
  have hPc : va_P D vwCl wc H := hP.sub isC (fm_of_map hC)
  have hDc := hD.sub isC hn1 hC
  have hpre : ∀ U : State, U.heap = H → s.WarmedH U.vm → PcW (l, D, cI, cZ) As wc H.size As.toArray U := fun U hU hW => ⟨rfl, by rw [hU], by rw [hU]; exact hPc, va_K.moved hW.alike hK, hDc.weaken (fun _ _ _ _ => trivial)⟩
  refine va_calll (va_runS (As := As) (rest := rest) ⟨hx, hb, hml, hown, hts⟩ (hM H.size) ⟨callB_of As.length hts (gi_q hG.2.2.2) rfl hR.1 hR.2.1 (hts _ hG.2.2.1) (hts _ hG.1) hd ⟨hR.2.2.1, hR.2.2.2.1⟩, hts _ hG.2.1⟩ ⟨PcW.blind, hpre⟩ rfl rfl hl.1 rfl (lv_room hst) hdg ⟨hR.2.2.2.2.1, hR.2.2.2.2.2⟩) hS (fun q _ h => hFc q h) hFc (fun r u t H1 locs1 ht hvm hw hB hz1 hk1 hS1 => ?_)
  obtain ⟨hP1, hK1, hD1⟩ := hB
  rw [ht] at hP1
  obtain ⟨hPn, hDn⟩ := cb_join hP hD isC isR perm hC hRr hn2 hdis hk1 hFc hP1 hD1 hn3 (hperm u)
  exact kk r u hw H1 locs1 ls hPn hDn hS1 hl

theorem g_cSv (F : FX E X cc own rm nL0) {S : Type} {post : S → Prop} {w1 : S → va_W} {y : MethodName} {bytes : ByteArray} {maxL index : Nat} {ret : Option FieldType} {rmc : Room} {As : List Value} {wc wr : va_W} (rest : List Value)
    (hM : CTv E y (wq y bytes maxL ret) rmc As wc post w1) (hG : Cond.methodLink own index y ∈ lw_g ∧ Cond.static y ∈ lw_g ∧ Cond.initialized y.cls ∈ lw_g ∧ Cond.code y bytes maxL ret ∈ lw_g) (na : Nat) (hna : As.length = na) (hd : y.cls ≠ "java/lang/invoke/MethodHandle" ∧ y.cls ≠ "java/lang/invoke/VarHandle" ∧ (parseMethodDescriptor y.desc).map (fun d => d.parameters.length) = some na) (hR : rmc.cells = 0 ∧ rmc.slots = 0 ∧ rmc.frames + 1 ≤ rm.frames ∧ 8 + (maxL + 11) + rmc.locals ≤ rm.locals ∧ k ≤ rm.cells ∧ n ≤ rm.slots) (isC isR perm : List Nat) (wn : S → va_W) (hC : isC.map (fun i => ws[i]?) = wc.map some) (hRr : isR.map (fun i => ws[i]?) = wr.map some) (hn : (va_nd isC && va_nd isR && va_nd perm && isR.all (fun i => !isC.contains i)) = true) (hperm : ∀ u, perm.map (fun i => (wr ++ w1 u)[i]?) = (wn u).map some) (hs : st = As.reverse ++ rest) (hst : (rest.map fun v => v.category).sum ≤ 8) (hdg : decode cc pc = .ok (.invokestatic index, 3))
    (kk : ∀ (u : S), post u → GW E X k n (wn u) lv (pc + 3) (rest)) : GW E X k n ws lv pc st := by
  subst hs
  subst hna
  simp only [Bool.and_eq_true] at hn
  obtain ⟨⟨⟨hn1, hn2⟩, hn3⟩, hn4⟩ := hn
  have hdis : ∀ i ∈ isR, i ∉ isC := fun i h z => by
    have := List.all_eq_true.mp hn4 i h
    simp at this
    exact this z
  obtain ⟨l, D, cI, cZ⟩ := E
  obtain ⟨p, e, R, s, m, args, below, meth, c, Q, A, nL⟩ := X
  obtain ⟨hx, hb, hml, hown, hts, hK, hA, hR, hnL, hlk⟩ := F
  subst hR
  subst hnL
  intro H locs ls hP hD hS hl
  have hFc := va_free (wc := wc) hD hS hA isC hC
  have hPc : va_P D vwCl wc H := hP.sub isC (fm_of_map hC)
  have hDc := hD.sub isC hn1 hC
  have hpre : ∀ U : State, U.heap = H → s.WarmedH U.vm → PcW (l, D, cI, cZ) As wc H.size As.toArray U := fun U hU hW => ⟨rfl, by rw [hU], by rw [hU]; exact hPc, va_K.moved hW.alike hK, hDc.weaken (fun _ _ _ _ => trivial)⟩
  refine va_callv (va_runS (As := As) (rest := rest) ⟨hx, hb, hml, hown, hts⟩ (hM H.size) ⟨callB_of As.length hts (gi_q hG.2.2.2) rfl hR.1 hR.2.1 (hts _ hG.2.2.1) (hts _ hG.1) hd ⟨hR.2.2.1, hR.2.2.2.1⟩, hts _ hG.2.1⟩ ⟨PcW.blind, hpre⟩ rfl rfl hl.1 rfl (lv_room hst) hdg ⟨hR.2.2.2.2.1, hR.2.2.2.2.2⟩) hS (fun q _ h => hFc q h) hFc (fun u t H1 locs1 ht hvm hw hB hz1 hk1 hS1 => ?_)
  obtain ⟨hP1, hK1, hD1⟩ := hB
  rw [ht] at hP1
  obtain ⟨hPn, hDn⟩ := cb_join hP hD isC isR perm hC hRr hn2 hdis hk1 hFc hP1 hD1 hn3 (hperm u)
  exact kk u hw H1 locs1 ls hPn hDn hS1 hl

/-- a call that only reads -/
theorem g_rVi (F : FX E X cc own rm nL0) {y : MethodName} {bytes : ByteArray} {maxL index : Nat} {ret : Option FieldType} {rmc : Room} {C : String} {T : u_T} {N b : Nat} {fs : List Value} {v : Int32} {As : List Value} {wc wr : va_W} (rest : List Value)
    (hM : RDi E y (wq y bytes maxL ret) rmc (.ref b :: As) wc v) (hG : GoodIn lw_g (wsV own index C y (wq y bytes maxL ret))) (na : Nat) (hna : As.length = na) (hd : y.cls = C ∧ y.cls ≠ "java/lang/invoke/MethodHandle" ∧ y.cls ≠ "java/lang/invoke/VarHandle" ∧ (parseMethodDescriptor y.desc).map (fun d => d.parameters.length) = some na) (hR : rmc.cells = 0 ∧ rmc.slots = 0 ∧ rmc.frames + 1 ≤ rm.frames ∧ 8 + (maxL + 11) + rmc.locals ≤ rm.locals ∧ k ≤ rm.cells ∧ n ≤ rm.slots) (ci q0 : Nat) (hc : vwCl[ci]? = some (C, T, N)) (hq : wc[q0]? = some (ob b ci fs))
    (isC isR perm : List Nat) (hC : isC.map (fun i => ws[i]?) = wc.map some) (hRr : isR.map (fun i => ws[i]?) = wr.map some) (hn : (va_nd isC && va_nd isR && va_nd perm && isR.all (fun i => !isC.contains i)) = true) (hperm : perm.map (fun i => (wr ++ wc)[i]?) = ws.map some) (hs : st = As.reverse ++ .ref b :: rest) (hst : (rest.map fun v => v.category).sum ≤ 8) (hdg : decode cc pc = .ok (.invokevirtual index, 3))
    (kk : GW E X k n ws lv (pc + 3) (.int v :: rest)) : GW E X k n ws lv pc st :=
  g_cVi F rest hM hG na hna hd hR ci q0 hc hq isC isR perm (fun _ => ws) hC hRr hn (fun _ => hperm) hs hst hdg (fun r _ h => by
    have h : r = v := h
    subst h
    exact kk)
theorem g_rSi (F : FX E X cc own rm nL0) {y : MethodName} {bytes : ByteArray} {maxL index : Nat} {ret : Option FieldType} {rmc : Room} {v : Int32} {As : List Value} {wc wr : va_W} (rest : List Value)
    (hM : RDi E y (wq y bytes maxL ret) rmc As wc v) (hG : Cond.methodLink own index y ∈ lw_g ∧ Cond.static y ∈ lw_g ∧ Cond.initialized y.cls ∈ lw_g ∧ Cond.code y bytes maxL ret ∈ lw_g) (na : Nat) (hna : As.length = na) (hd : y.cls ≠ "java/lang/invoke/MethodHandle" ∧ y.cls ≠ "java/lang/invoke/VarHandle" ∧ (parseMethodDescriptor y.desc).map (fun d => d.parameters.length) = some na) (hR : rmc.cells = 0 ∧ rmc.slots = 0 ∧ rmc.frames + 1 ≤ rm.frames ∧ 8 + (maxL + 11) + rmc.locals ≤ rm.locals ∧ k ≤ rm.cells ∧ n ≤ rm.slots)
    (isC isR perm : List Nat) (hC : isC.map (fun i => ws[i]?) = wc.map some) (hRr : isR.map (fun i => ws[i]?) = wr.map some) (hn : (va_nd isC && va_nd isR && va_nd perm && isR.all (fun i => !isC.contains i)) = true) (hperm : perm.map (fun i => (wr ++ wc)[i]?) = ws.map some) (hs : st = As.reverse ++ rest) (hst : (rest.map fun v => v.category).sum ≤ 8) (hdg : decode cc pc = .ok (.invokestatic index, 3))
    (kk : GW E X k n ws lv (pc + 3) (.int v :: rest)) : GW E X k n ws lv pc st :=
  g_cSi F rest hM hG na hna hd hR isC isR perm (fun _ => ws) hC hRr hn (fun _ => hperm) hs hst hdg (fun r _ h => by
    have h : r = v := h
    subst h
    exact kk)

end GWR
theorem gi_V {own C : String} {idx n : Nat} {y : MethodName} {b : ByteArray} {r : Option FieldType} (h1 : Cond.methodLink own idx y ∈ lw_g) (h2 : Cond.instanceMethod y ∈ lw_g) (h3 : Cond.selects C y y ∈ lw_g) (h4 : Cond.initialized C ∈ lw_g) (h5 : Cond.code y b n r ∈ lw_g) : GoodIn lw_g (wsV own idx C y (wq y b n r)) := by
  intro w hw
  have : w ∈ lw_g := by
    unfold wsV wq at hw
    simp only [List.mem_append, List.mem_cons, List.not_mem_nil, or_false] at hw
    rcases hw with (rfl | rfl | rfl | rfl) | rfl | hw
    · exact h1
    · exact h2
    · exact h3
    · exact h4
    · exact h5
    · exact hw
  exact gi_all w this
