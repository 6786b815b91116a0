def nws : List Cond := [.methodLinkNest RX10 9 yX8_init "NearBook", .methodLinkNest RX10 18 yX9_init "NearBook", .methodLinkNest RX10 34 yX5_init "NearBook", .methodLinkNest RX10 41 yX7_init "NearBook", .methodLinkNest RX10 48 yX4_init "NearBook", .methodLinkNest RX2 13 yX4_init "NearBook"]
theorem tw_nl_X10_9 : Cond.methodLinkNest RX10 9 yX8_init "NearBook" ∈ nws := List.mem_of_getElem? (i := 0) rfl
theorem tw_nl_X10_18 : Cond.methodLinkNest RX10 18 yX9_init "NearBook" ∈ nws := List.mem_of_getElem? (i := 1) rfl
theorem tw_nl_X10_34 : Cond.methodLinkNest RX10 34 yX5_init "NearBook" ∈ nws := List.mem_of_getElem? (i := 2) rfl
theorem tw_nl_X10_41 : Cond.methodLinkNest RX10 41 yX7_init "NearBook" ∈ nws := List.mem_of_getElem? (i := 3) rfl
theorem tw_nl_X10_48 : Cond.methodLinkNest RX10 48 yX4_init "NearBook" ∈ nws := List.mem_of_getElem? (i := 4) rfl
theorem tw_nl_X2_13 : Cond.methodLinkNest RX2 13 yX4_init "NearBook" ∈ nws := List.mem_of_getElem? (i := 5) rfl
theorem nws_tbl : ∀ w ∈ nws, w ∈ lw_tbl := by
  intro w hw
  unfold nws at hw
  simp only [List.mem_cons, List.not_mem_nil, or_false] at hw
  rcases hw with rfl | rfl | rfl | rfl | rfl | rfl
  · exact List.mem_of_getElem? (i := 72) (by decide +kernel)
  · exact List.mem_of_getElem? (i := 92) (by decide +kernel)
  · exact List.mem_of_getElem? (i := 133) (by decide +kernel)
  · exact List.mem_of_getElem? (i := 146) (by decide +kernel)
  · exact List.mem_of_getElem? (i := 162) (by decide +kernel)
  · exact List.mem_of_getElem? (i := 180) (by decide +kernel)
def NS (U : State) : Prop := ∀ w ∈ nws, va_Nw w U
theorem NS.warm {s U : State} (hW : s.WarmedH U.vm) (h : NS s) : NS U := by
  intro w hw
  have hq := h w hw
  unfold nws at hw
  simp only [List.mem_cons, List.not_mem_nil, or_false] at hw
  rcases hw with rfl | rfl | rfl | rfl | rfl | rfl <;> exact va_Nw.warmM hW hq
theorem NS.same {u U : State} (e : u.vm = U.vm) (h : NS u) : NS U := by
  intro w hw
  have hq := h w hw
  unfold nws at hw
  simp only [List.mem_cons, List.not_mem_nil, or_false] at hw
  rcases hw with rfl | rfl | rfl | rfl | rfl | rfl <;> exact va_Nw.same rfl e hq
theorem NS.of {A : Array Value} {U : State} (hts : ∀ w ∈ lw_tbl, w.before A U = true) : NS U := by
  intro w hw
  have hq := hts w (nws_tbl w hw)
  unfold nws at hw
  simp only [List.mem_cons, List.not_mem_nil, or_false] at hw
  rcases hw with rfl | rfl | rfl | rfl | rfl | rfl <;> exact va_Nw.of rfl hq
def NSX (X : Cx) : Prop := match X with | (_, _, _, s, _, _, _, _, _, _, _, _) => NS s
def NMX (X : Cx) : Prop := match X with | (_, _, _, _, _, _, _, meth, _, _, _, _) => meth.name = "<init>"
def PcN (E : Ev) (av : List Value) (wc : va_W) (sz : Nat) : Array Value → State → Prop := va_Pc av (fun U => U.heap.size = sz ∧ va_P E.2.1 vwCl wc U.heap ∧ va_K E.2.1 vwCl (tyl E.2.2.1 E.2.2.2) U ∧ va_D (fun _ => True) wc ∧ NS U)
theorem PcN.blind {E : Ev} {av : List Value} {wc : va_W} {sz : Nat} : FrameBlind (PcN E av wc sz) := fun a U g mk q => by
  obtain ⟨q0, q1, qP, qK, qD, qN⟩ := q
  exact ⟨q0, q1, qP, va_K.moved (u := U) (U := U.calling g mk a) (Vm.Alike.refl U.vm) qK, qD, NS.same (u := U) (U := U.calling g mk a) rfl qN⟩
/-- a constructor: mc cells of ms slots come new -/
def CTn (E : Ev) (y : MethodName) (wm : List Cond) (rm : Room) (mc ms : Nat) (av : List Value) (wc : va_W) {S : Type} (post : S → Prop) (w1 : S → va_W) : Prop :=
  ∀ sz : Nat, Met E.1 y wm rm (PcN E av wc sz) (va_Qv post (BW E wc w1 sz) (va_A wc sz)) mc ms (va_A wc sz)
def rmn (f lo mc ms : Nat) : Room := { frames := f, cells := mc, slots := ms, locals := lo }
def RTn (E : Ev) (X : Cx) (cc : ByteArray) (mc ms : Nat) {S : Type} (post : S → Prop) (w1 : S → va_W) : Prop := ∀ (u : S) (lv : List (Nat × Value)) (pc : Nat), decode cc pc = .ok (.return_, 1) → post u → GW E X mc ms (w1 u) lv pc []
theorem CTn.of {E : Ev} {S : Type} {y : MethodName} {bytes : ByteArray} {nL mc ms : Nat} {rm : Room} {av : List Value} {wc : va_W} {post : S → Prop} {w1 : S → va_W} (hy : plainName y.cls = true) (hyn : y.name = "<init>") (hlen : (lg_sl av).length ≤ nL)
    (body : ∀ X : Cx, FX E X bytes y.cls rm nL → NSX X → NMX X → RTn E X bytes mc ms post w1 → GW E X 0 0 wc (lv_args 0 av) 0 []) : CTn E y (wq y bytes nL none) rm mc ms av wc post w1 := by
  obtain ⟨l, D, cI, cZ⟩ := E
  intro sz
  refine Met.ofW (cc := bytes) (maxL := nL) (ret := none) hy rfl ?_
  intro p e s m args below meth c s₁ B hml hv
  obtain ⟨rfl, hsz, hP, hK, hD0, hN⟩ := hv
  have hx := B.exec
  have hb := B.bytes
  have hr := B.returns
  have hts := atoms_spec (ws := wq y bytes nL none) B.pre
  have hown : s.vm.findClass y.cls = some m.cls := findClass_of_methodNamed B.named
  have hlocks := B.notSynchronized
  have hin : meth.name = "<init>" := ((name_of_methodNamed B.named B.method).1).trans hyn
  subst hsz
  have hD := hD0.self (sz := s.heap.size)
  have hl := lv_entry av (n := nL) hlen
  rw [lg_entry_eq]
  exact body (p, e, rm, s, m, av.toArray, below, meth, c, MQ below (va_Qv post (BW (l, D, cI, cZ) wc w1 s.heap.size) (va_A wc s.heap.size)) av.toArray s mc ms (va_A wc s.heap.size), va_A wc s.heap.size, nL) ⟨hx, hb, hml, hown, fun w h => hts w (List.mem_cons_of_mem _ h), hK, fun q h => Or.inr h, rfl, rfl, hlocks⟩ hN hin
    (fun u lv pc hdg hp H1 locs1 ls1 hP1 hD1 hS1 _ => W.vret hx hb hr (fun t ht hW => ⟨⟨u, rfl, hp, by rw [ht]; exact hP1, va_K.moved hW.alike hK, hD1⟩, hS1.F ht⟩) hS1.2.2 hdg) s.heap [] _ hP hD va_S.rf hl
section GWC
variable {E : Ev} {X : Cx} {cc : ByteArray} {own : String} {rm : Room} {nL0 k n pc : Nat} {ws : va_W} {lv : List (Nat × Value)} {st : List Value}
theorem g_perm (perm : List Nat) (ws' : va_W) (hp : perm.map (fun i => ws[i]?) = ws'.map some) (hn : va_nd perm = true) (kk : GW E X k n ws' lv pc st) : GW E X k n ws lv pc st := by
  obtain ⟨l, D, cI, cZ⟩ := E
  obtain ⟨p, e, R, s, m, args, below, meth, c, Q, A, nL⟩ := X
  intro H locs ls hP hD hS hl
  exact kk H locs ls (hP.sub perm (fm_of_map hp)) (hD.sub perm hn hp) hS hl

theorem g_newi (F : FX E X cc own rm nL0) {N : Nat} (k1 n1 : Nat) (hk : k + 1 = k1) (hn : n + N = n1) (hN : N < 2 ^ 31) (hby : N * componentBytes .int ≤ 536870912) (hc : k1 ≤ rm.cells) (hs : n1 ≤ rm.slots) (hdg : decode cc pc = .ok (.newarray .int, 2)) (kk : ∀ q, GW E X k1 n1 (ws ++ [ia E q N (fun _ => 0)]) lv (pc + 2) (.ref q :: st)) : GW E X k n ws lv pc (.int (nI N) :: st) := by
  subst hk
  subst hn
  obtain ⟨l, D, cI, cZ⟩ := E
  obtain ⟨p, e, R, s, m, args, below, meth, c, Q, A, nL⟩ := X
  obtain ⟨hx, hb, hml, hown, hts, hK, hA, hR, hnL, hlk⟩ := F
  subst hR
  subst hnL
  intro H locs ls hP hD hS hl
  refine va_newa (atype := .int) hx hb (hts _ tw_ac_int) (ty := .int) rfl hK hP hD hS hA (a0 := (N, .inl (fun _ => 0))) (fun cA => rfl) (nI_pos hN) (nI_clamp hN) hby hc hs hdg (fun q cA H1 hK1 hP1 hD1 hS1 => ?_)
  have e1 := (hK1.2 2 (cA, .int) rfl).2
  have e2 := (hK.2 0 _ rfl).2
  have e3 : cA = cI := Option.some.inj (e1.symm.trans e2)
  subst e3
  exact kk q H1 locs ls hP1 hD1 hS1 hl

theorem g_newz (F : FX E X cc own rm nL0) {N : Nat} (k1 n1 : Nat) (hk : k + 1 = k1) (hn : n + N = n1) (hN : N < 2 ^ 31) (hby : N * componentBytes .boolean ≤ 536870912) (hc : k1 ≤ rm.cells) (hs : n1 ≤ rm.slots) (hdg : decode cc pc = .ok (.newarray .boolean, 2)) (kk : ∀ q, GW E X k1 n1 (ws ++ [za E q N (fun _ => 0)]) lv (pc + 2) (.ref q :: st)) : GW E X k n ws lv pc (.int (nI N) :: st) := by
  subst hk
  subst hn
  obtain ⟨l, D, cI, cZ⟩ := E
  obtain ⟨p, e, R, s, m, args, below, meth, c, Q, A, nL⟩ := X
  obtain ⟨hx, hb, hml, hown, hts, hK, hA, hR, hnL, hlk⟩ := F
  subst hR
  subst hnL
  intro H locs ls hP hD hS hl
  refine va_newa (atype := .boolean) hx hb (hts _ tw_ac_boolean) (ty := .boolean) rfl hK hP hD hS hA (a0 := (N, .inl (fun _ => 0))) (fun cA => rfl) (nI_pos hN) (nI_clamp hN) hby hc hs hdg (fun q cA H1 hK1 hP1 hD1 hS1 => ?_)
  have e1 := (hK1.2 2 (cA, .boolean) rfl).2
  have e2 := (hK.2 1 _ rfl).2
  have e3 : cA = cZ := Option.some.inj (e1.symm.trans e2)
  subst e3
  exact kk q H1 locs ls hP1 hD1 hS1 hl

theorem g_new (F : FX E X cc own rm nL0) {C : String} {T : u_T} {N index : Nat} (ci : Nat) (fs : List Value) (k1 n1 : Nat) (hk : k + 1 = k1) (hn : n + N = n1) (hin : ∀ w ∈ u_ws C T N, w ∈ lw_g) (ty0 : Nat → FieldType) (hty : ∀ k, k < N → parseFieldDescriptor (T k).2.2.1 = some (ty0 k)) (hcl : Cond.classLink own index C ∈ lw_g) (hib : Cond.instantiable C N ∈ lw_g) (hini : Cond.initialized C ∈ lw_g) (hc : vwCl[ci]? = some (C, T, N)) (hfs : ∀ j, j < N → defaultValue (ty0 j) = vp_V fs j) (hce : k1 ≤ rm.cells) (hsl : n1 ≤ rm.slots) (hdg : decode cc pc = .ok (.new index, 3)) (kk : ∀ q, GW E X k1 n1 (ws ++ [ob q ci fs]) lv (pc + 3) (.ref q :: st)) : GW E X k n ws lv pc st := by
  subst hk
  subst hn
  obtain ⟨l, D, cI, cZ⟩ := E
  obtain ⟨p, e, R, s, m, args, below, meth, c, Q, A, nL⟩ := X
  obtain ⟨hx, hb, hml, hown, hts, hK, hA, hR, hnL, hlk⟩ := F
  subst hR
  subst hnL
  intro H locs ls hP hD hS hl
  exact va_new hx hb hts hin ty0 hty hown (hts _ hcl) (hts _ hib) (hts _ hini) hK hP hD hS hA hc hfs hce hsl hdg (fun q H1 hP1 hD1 hS1 => kk q H1 locs ls hP1 hD1 hS1 hl)
theorem g_putF (F : FX E X cc own rm nL0) (M : NMX X) {C : String} {T : u_T} {N a index : Nat} {fs : List Value} {v : Value} {ty0 : Nat → FieldType} {ty : FieldType} (ci q0 kf : Nat) (ws' : va_W) (hin : ∀ w ∈ u_ws C T N, w ∈ lw_g) (hty : ∀ k, k < N → parseFieldDescriptor (T k).2.2.1 = some (ty0 k)) (hnm : ∀ a, a < N → ∀ b, b < N → a ≠ b → (T a).2.1 ≠ (T b).2.1) (hc : vwCl[ci]? = some (C, T, N)) (hq : ws[q0]? = some (ob a ci fs)) (hk : kf < N) (hlink : Cond.fieldLink own index (T kf).1 (T kf).2.1 (T kf).2.2.1 ∈ lw_g) (hfin : (T kf).2.2.2 = true) (hdecl : (T kf).1 = own) (hd : ty0 kf = ty) (hn : narrow ty v = v) (hfit : fits ty v = true) (hlen : kf < fs.length) (hw : ws.set q0 (ob a ci (fs.set kf v)) = ws') (hdg : decode cc pc = .ok (.putfield index, 3)) (kk : GW E X k n ws' lv (pc + 3) st) : GW E X k n ws lv pc (v :: .ref a :: st) := by
  subst hw
  obtain ⟨l, D, cI, cZ⟩ := E
  obtain ⟨p, e, R, s, m, args, below, meth, c, Q, A, nL⟩ := X
  obtain ⟨hx, hb, hml, hown, hts, hK, hA, hR, hnL, hlk⟩ := F
  subst hR
  subst hnL
  intro H locs ls hP hD hS hl
  exact va_putF hx hb hts hin ty0 hty hnm hown hK hP hD hS q0 hq hc kf hk (hts _ hlink) (fun _ h9 => h9) hfin M hdecl (by rw [← hd]; exact hty kf hk) hn hfit hlen hdg (fun H1 locs1 hP1 hD1 hS1 => kk H1 locs1 ls hP1 hD1 hS1 hl)
theorem g_obj (F : FX E X cc own rm nL0) {a index : Nat} (hlink : Cond.methodLink own index objectInit ∈ lw_g) (hfr : 1 ≤ rm.frames) (hlo : (st.map fun v => v.category).sum + 12 ≤ rm.locals) (hdg : decode cc pc = .ok (.invokespecial index, 3)) (kk : GW E X k n ws lv (pc + 3) st) : GW E X k n ws lv pc (.ref a :: st) := by
  obtain ⟨l, D, cI, cZ⟩ := E
  obtain ⟨p, e, R, s, m, args, below, meth, c, Q, A, nL⟩ := X
  obtain ⟨hx, hb, hml, hown, hts, hK, hA, hR, hnL, hlk⟩ := F
  subst hR
  subst hnL
  intro H locs ls hP hD hS hl
  refine W.objInit hx hb hown (hts _ hlink) (hts _ tw_im_objectInit) (hts _ tw_co_objectInit) rfl (hl.1.trans hml.symm) rfl hdg hfr (by show 2 * 0 + _ + 12 ≤ _; omega) ?_
  exact kk H locs ls hP hD hS hl

theorem g_cI (F : FX E X cc own rm nL0) (M : NSX X) {S : Type} {post : S → Prop} {w1 : S → va_W} {y : MethodName} {bytes : ByteArray} {maxL index mc ms b : Nat} {rmc : Room} {As : List Value} {wc wr : va_W} (rest : List Value) (k1 n1 : Nat) (hk1 : k + mc = k1) (hn1' : n + ms = n1)
    (hM : CTn E y (wq y bytes maxL none) rmc mc ms (.ref b :: As) wc post w1) (hG : Cond.methodLink own index y ∈ lw_g ∧ Cond.instanceMethod y ∈ lw_g ∧ Cond.initialized y.cls ∈ lw_g ∧ Cond.code y bytes maxL none ∈ lw_g) (hyn : y.name = "<init>") (na : Nat) (hna : As.length = na) (hd : y.cls ≠ "java/lang/invoke/MethodHandle" ∧ y.cls ≠ "java/lang/invoke/VarHandle" ∧ (parseMethodDescriptor y.desc).map (fun d => d.parameters.length) = some na) (hR : rmc.cells = mc ∧ rmc.slots = ms ∧ rmc.frames + 1 ≤ rm.frames ∧ 8 + (maxL + 11) + rmc.locals ≤ rm.locals ∧ k1 ≤ rm.cells ∧ n1 ≤ rm.slots) (isC isR perm : List Nat) (wn : S → va_W) (hC : isC.map (fun i => ws[i]?) = wc.map some) (hRr : isR.map (fun i => ws[i]?) = wr.map some) (hn : (va_nd isC && va_nd isR && va_nd perm && isR.all (fun i => !isC.contains i)) = true) (hperm : ∀ u, perm.map (fun i => (wr ++ w1 u)[i]?) = (wn u).map some) (hs : st = As.reverse ++ .ref b :: rest) (hst : (rest.map fun v => v.category).sum ≤ 8) (hdg : decode cc pc = .ok (.invokespecial index, 3))
    (kk : ∀ (u : S), post u → GW E X k1 n1 (wn u) lv (pc + 3) rest) : GW E X k n ws lv pc st := by
  subst hs
  subst hna
  subst hk1
  subst hn1'
  simp only [Bool.and_eq_true] at hn
  obtain ⟨⟨⟨hn1, hn2⟩, hn3⟩, hn4⟩ := hn
  have hdis : ∀ i ∈ isR, i ∉ isC := fun i h z => by
    have := List.all_eq_true.mp hn4 i h
    simp at this
    exact this z
  obtain ⟨l, D, cI, cZ⟩ := E
  obtain ⟨p, e, R, s, m, args, below, meth, c, Q, A, nL⟩ := X
  obtain ⟨hx, hb, hml, hown, hts, hK, hA, hR, hnL, hlk⟩ := F
  subst hR
  subst hnL
  intro H locs ls hP hD hS hl
  have hNS : NS s := M
  have hFc := va_free (wc := wc) hD hS hA isC hC
  have hPc : va_P D vwCl wc H := hP.sub isC (fm_of_map hC)
  have hDc := hD.sub isC hn1 hC
  have hpre : ∀ U : State, U.heap = H → s.WarmedH U.vm → PcN (l, D, cI, cZ) (.ref b :: As) wc H.size (Value.ref b :: As).toArray U := fun U hU hW => ⟨rfl, by rw [hU], by rw [hU]; exact hPc, va_K.moved hW.alike hK, hDc.weaken (fun _ _ _ _ => trivial), hNS.warm hW⟩
  refine va_callv (va_runI (As := As) (rest := rest) ⟨hx, hb, hml, hown, hts⟩ (hM H.size) (cwI As.length hts (gi_q hG.2.2.2) rfl hR.1 hR.2.1 (hts _ hG.2.2.1) (hts _ hG.1) (hts _ hG.2.1) hyn hd ⟨hR.2.2.1, hR.2.2.2.1⟩) ⟨PcN.blind, hpre⟩ rfl rfl hl.1 rfl (lv_room hst) hdg ⟨hR.2.2.2.2.1, hR.2.2.2.2.2⟩) hS (fun q _ h => hFc q h) hFc (fun u t H1 locs1 ht hvm hw hB hz1 hk1 hS1 => ?_)
  obtain ⟨hP1, hK1, hD1⟩ := hB
  rw [ht] at hP1
  obtain ⟨hPn, hDn⟩ := cb_join hP hD isC isR perm hC hRr hn2 hdis hk1 hFc hP1 hD1 hn3 (hperm u)
  exact kk u hw H1 locs1 ls hPn hDn hS1 hl

theorem g_cIN (F : FX E X cc own rm nL0) (M : NSX X) {S : Type} {post : S → Prop} {w1 : S → va_W} {y : MethodName} {bytes : ByteArray} {maxL index mc ms b : Nat} {rmc : Room} {As : List Value} {host : String} {wc wr : va_W} (rest : List Value) (k1 n1 : Nat) (hk1 : k + mc = k1) (hn1' : n + ms = n1)
    (hM : CTn E y (wq y bytes maxL none) rmc mc ms (.ref b :: As) wc post w1) (hG : Cond.methodLinkNest own index y host ∈ nws ∧ Cond.instanceMethod y ∈ lw_g ∧ Cond.initialized y.cls ∈ lw_g ∧ Cond.code y bytes maxL none ∈ lw_g) (hyn : y.name = "<init>") (na : Nat) (hna : As.length = na) (hd : y.cls ≠ "java/lang/invoke/MethodHandle" ∧ y.cls ≠ "java/lang/invoke/VarHandle" ∧ (parseMethodDescriptor y.desc).map (fun d => d.parameters.length) = some na) (hR : rmc.cells = mc ∧ rmc.slots = ms ∧ rmc.frames + 1 ≤ rm.frames ∧ 8 + (maxL + 11) + rmc.locals ≤ rm.locals ∧ k1 ≤ rm.cells ∧ n1 ≤ rm.slots) (isC isR perm : List Nat) (wn : S → va_W) (hC : isC.map (fun i => ws[i]?) = wc.map some) (hRr : isR.map (fun i => ws[i]?) = wr.map some) (hn : (va_nd isC && va_nd isR && va_nd perm && isR.all (fun i => !isC.contains i)) = true) (hperm : ∀ u, perm.map (fun i => (wr ++ w1 u)[i]?) = (wn u).map some) (hs : st = As.reverse ++ .ref b :: rest) (hst : (rest.map fun v => v.category).sum ≤ 8) (hdg : decode cc pc = .ok (.invokespecial index, 3))
    (kk : ∀ (u : S), post u → GW E X k1 n1 (wn u) lv (pc + 3) rest) : GW E X k n ws lv pc st := by
  subst hs
  subst hna
  subst hk1
  subst hn1'
  simp only [Bool.and_eq_true] at hn
  obtain ⟨⟨⟨hn1, hn2⟩, hn3⟩, hn4⟩ := hn
  have hdis : ∀ i ∈ isR, i ∉ isC := fun i h z => by
    have := List.all_eq_true.mp hn4 i h
    simp at this
    exact this z
  obtain ⟨l, D, cI, cZ⟩ := E
  obtain ⟨p, e, R, s, m, args, below, meth, c, Q, A, nL⟩ := X
  obtain ⟨hx, hb, hml, hown, hts, hK, hA, hR, hnL, hlk⟩ := F
  subst hR
  subst hnL
  intro H locs ls hP hD hS hl
  have hNS : NS s := M
  have hFc := va_free (wc := wc) hD hS hA isC hC
  have hPc : va_P D vwCl wc H := hP.sub isC (fm_of_map hC)
  have hDc := hD.sub isC hn1 hC
  have hpre : ∀ U : State, U.heap = H → s.WarmedH U.vm → PcN (l, D, cI, cZ) (.ref b :: As) wc H.size (Value.ref b :: As).toArray U := fun U hU hW => ⟨rfl, by rw [hU], by rw [hU]; exact hPc, va_K.moved hW.alike hK, hDc.weaken (fun _ _ _ _ => trivial), hNS.warm hW⟩
  refine va_callv (va_runIN (As := As) (rest := rest) ⟨hx, hb, hml, hown, hts⟩ (hM H.size) ⟨va_cnB As.length hts (gi_q hG.2.2.2) rfl hR.1 hR.2.1 (hNS _ hG.1) (hts _ hG.2.2.1) hd ⟨hR.2.2.1, hR.2.2.2.1⟩, hyn, hts _ hG.2.1⟩ ⟨PcN.blind, hpre⟩ rfl rfl hl.1 rfl (lv_room hst) hdg ⟨hR.2.2.2.2.1, hR.2.2.2.2.2⟩) hS (fun q _ h => hFc q h) hFc (fun u t H1 locs1 ht hvm hw hB hz1 hk1 hS1 => ?_)
  obtain ⟨hP1, hK1, hD1⟩ := hB
  rw [ht] at hP1
  obtain ⟨hPn, hDn⟩ := cb_join hP hD isC isR perm hC hRr hn2 hdis hk1 hFc hP1 hD1 hn3 (hperm u)
  exact kk u hw H1 locs1 ls hPn hDn hS1 hl

end GWC
