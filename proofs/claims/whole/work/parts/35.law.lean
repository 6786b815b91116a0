def R_law : String := "NearBookLaw"
def lw_P (b : Addr) (xs : List Int32) (args : Array Value) (s : State) : Prop := args = #[.ref b] ∧ s.IntsAt b xs ∧ xs.length ≤ 2048 ∧ (Jvm.Cond.and given_1 narrow_1).before args s = true
def lw_Q (_ : Array Value) (s : State) (o : Outcome) (t : State) : Prop := o = .returned (some (.int 1)) ∧ Framed s o t [] 43 16727
def lw_Z (below : List Frame) (a : Array Value) (s : State) : State → Prop := fun t => ∃ o, t.status = .running ∧ Ended t below o ∧ lw_Q a s o t
theorem lw_ret {p : Program} {l : Launch} {e : Env} {s : State} {m : MethodId} {below : List Frame} {meth : Method} {c : Code} {b : Nat} (hx : p.tables.exec = Jvm.exec) (hb : c.code = code) (hr : meth.sig.returnType = ret) (hlocks : meth.locks = false) {pc : Nat} {H : Heap} {ls : Array Slot} (hdg : decode code pc = .ok (.ireturn, 1)) : W p l e room_1 s m #[Value.ref b] below meth c H [] 43 16727 (lw_Z below #[Value.ref b] s) (F0 m pc ls [.int 1]) := by
  intro T hT X
  obtain ⟨fs, hret, hrun, hended, hW, hframe⟩ := X.leave (v := some (.int 1)) (hlocks := hlocks) (fun h => by rw [hr] at h; cases h)
  have hmeth' : T.vm.method? m = some meth := X.method'
  refine ⟨T.setFrames fs, ?_, .returned (some (.int 1)), hrun, hended, rfl, ⟨_, rfl⟩, hW, hframe⟩
  jvm_step X.here [X.here.top, hx, hb, hdg, hmeth', hr, ret, narrow_b1]
  (try refine ⟨rfl, ?_⟩); (try refine ⟨rfl, ?_⟩)
  first | (intro acts; rw [hret _ acts rfl rfl rfl]) | rw [hret _ _ rfl rfl rfl]
  exact Steps.refl _
def lw_At (p : Program) (s : State) (m : MethodId) (meth : Method) (c : Code) (b L : Nat) (xs : Nat → Int32) : Prop :=
  p.tables.exec = Jvm.exec ∧ c.code = code ∧ meth.sig.returnType = ret ∧ c.maxLocals = 4 ∧ s.vm.findClass R_law = some m.cls ∧ (∀ w ∈ lw_tbl, w.before #[Value.ref b] s = true) ∧ va_X b L xs s s.heap ∧ b < s.heap.size ∧ meth.locks = false ∧ (Jvm.Cond.and given_1 narrow_1).before #[Value.ref b] s = true

theorem tw24 (x : Int32) : x = 0 ∨ x = 1 ∨ x = 2 ∨ x = 3 ∨ x = 4 ∨ x = 5 ∨ x = 6 ∨ x = 7 ∨ x = 8 ∨ x = 9 ∨ x = 10 ∨ x = 11 ∨ x = 12 ∨ x = 13 ∨ x = 14 ∨ x = 15 ∨ x = 16 ∨ x = 17 ∨ x = 18 ∨ x = 19 ∨ x = 20 ∨ x = 21 ∨ x = 22 ∨ x = 23 ∨ (x.toInt < 0 ∨ 23 < x.toInt) := by
  by_cases c : x.toInt < 0 ∨ 23 < x.toInt
  · exact Or.inr (Or.inr (Or.inr (Or.inr (Or.inr (Or.inr (Or.inr (Or.inr (Or.inr (Or.inr (Or.inr (Or.inr (Or.inr (Or.inr (Or.inr (Or.inr (Or.inr (Or.inr (Or.inr (Or.inr (Or.inr (Or.inr (Or.inr (Or.inr (c))))))))))))))))))))))))
  · have h : x.toInt = 0 ∨ x.toInt = 1 ∨ x.toInt = 2 ∨ x.toInt = 3 ∨ x.toInt = 4 ∨ x.toInt = 5 ∨ x.toInt = 6 ∨ x.toInt = 7 ∨ x.toInt = 8 ∨ x.toInt = 9 ∨ x.toInt = 10 ∨ x.toInt = 11 ∨ x.toInt = 12 ∨ x.toInt = 13 ∨ x.toInt = 14 ∨ x.toInt = 15 ∨ x.toInt = 16 ∨ x.toInt = 17 ∨ x.toInt = 18 ∨ x.toInt = 19 ∨ x.toInt = 20 ∨ x.toInt = 21 ∨ x.toInt = 22 ∨ x.toInt = 23 := by omega
    rcases h with h | h | h | h | h | h | h | h | h | h | h | h | h | h | h | h | h | h | h | h | h | h | h | h
    · exact Or.inl (Int32.toInt_inj.mp (h.trans (by decide)))
    · exact Or.inr (Or.inl (Int32.toInt_inj.mp (h.trans (by decide))))
    · exact Or.inr (Or.inr (Or.inl (Int32.toInt_inj.mp (h.trans (by decide)))))
    · exact Or.inr (Or.inr (Or.inr (Or.inl (Int32.toInt_inj.mp (h.trans (by decide))))))
    · exact Or.inr (Or.inr (Or.inr (Or.inr (Or.inl (Int32.toInt_inj.mp (h.trans (by decide)))))))
    · exact Or.inr (Or.inr (Or.inr (Or.inr (Or.inr (Or.inl (Int32.toInt_inj.mp (h.trans (by decide))))))))
    · exact Or.inr (Or.inr (Or.inr (Or.inr (Or.inr (Or.inr (Or.inl (Int32.toInt_inj.mp (h.trans (by decide)))))))))
    · exact Or.inr (Or.inr (Or.inr (Or.inr (Or.inr (Or.inr (Or.inr (Or.inl (Int32.toInt_inj.mp (h.trans (by decide))))))))))
    · exact Or.inr (Or.inr (Or.inr (Or.inr (Or.inr (Or.inr (Or.inr (Or.inr (Or.inl (Int32.toInt_inj.mp (h.trans (by decide)))))))))))
    · exact Or.inr (Or.inr (Or.inr (Or.inr (Or.inr (Or.inr (Or.inr (Or.inr (Or.inr (Or.inl (Int32.toInt_inj.mp (h.trans (by decide))))))))))))
    · exact Or.inr (Or.inr (Or.inr (Or.inr (Or.inr (Or.inr (Or.inr (Or.inr (Or.inr (Or.inr (Or.inl (Int32.toInt_inj.mp (h.trans (by decide)))))))))))))
    · exact Or.inr (Or.inr (Or.inr (Or.inr (Or.inr (Or.inr (Or.inr (Or.inr (Or.inr (Or.inr (Or.inr (Or.inl (Int32.toInt_inj.mp (h.trans (by decide))))))))))))))
    · exact Or.inr (Or.inr (Or.inr (Or.inr (Or.inr (Or.inr (Or.inr (Or.inr (Or.inr (Or.inr (Or.inr (Or.inr (Or.inl (Int32.toInt_inj.mp (h.trans (by decide)))))))))))))))
    · exact Or.inr (Or.inr (Or.inr (Or.inr (Or.inr (Or.inr (Or.inr (Or.inr (Or.inr (Or.inr (Or.inr (Or.inr (Or.inr (Or.inl (Int32.toInt_inj.mp (h.trans (by decide))))))))))))))))
    · exact Or.inr (Or.inr (Or.inr (Or.inr (Or.inr (Or.inr (Or.inr (Or.inr (Or.inr (Or.inr (Or.inr (Or.inr (Or.inr (Or.inr (Or.inl (Int32.toInt_inj.mp (h.trans (by decide)))))))))))))))))
    · exact Or.inr (Or.inr (Or.inr (Or.inr (Or.inr (Or.inr (Or.inr (Or.inr (Or.inr (Or.inr (Or.inr (Or.inr (Or.inr (Or.inr (Or.inr (Or.inl (Int32.toInt_inj.mp (h.trans (by decide))))))))))))))))))
    · exact Or.inr (Or.inr (Or.inr (Or.inr (Or.inr (Or.inr (Or.inr (Or.inr (Or.inr (Or.inr (Or.inr (Or.inr (Or.inr (Or.inr (Or.inr (Or.inr (Or.inl (Int32.toInt_inj.mp (h.trans (by decide)))))))))))))))))))
    · exact Or.inr (Or.inr (Or.inr (Or.inr (Or.inr (Or.inr (Or.inr (Or.inr (Or.inr (Or.inr (Or.inr (Or.inr (Or.inr (Or.inr (Or.inr (Or.inr (Or.inr (Or.inl (Int32.toInt_inj.mp (h.trans (by decide))))))))))))))))))))
    · exact Or.inr (Or.inr (Or.inr (Or.inr (Or.inr (Or.inr (Or.inr (Or.inr (Or.inr (Or.inr (Or.inr (Or.inr (Or.inr (Or.inr (Or.inr (Or.inr (Or.inr (Or.inr (Or.inl (Int32.toInt_inj.mp (h.trans (by decide)))))))))))))))))))))
    · exact Or.inr (Or.inr (Or.inr (Or.inr (Or.inr (Or.inr (Or.inr (Or.inr (Or.inr (Or.inr (Or.inr (Or.inr (Or.inr (Or.inr (Or.inr (Or.inr (Or.inr (Or.inr (Or.inr (Or.inl (Int32.toInt_inj.mp (h.trans (by decide))))))))))))))))))))))
    · exact Or.inr (Or.inr (Or.inr (Or.inr (Or.inr (Or.inr (Or.inr (Or.inr (Or.inr (Or.inr (Or.inr (Or.inr (Or.inr (Or.inr (Or.inr (Or.inr (Or.inr (Or.inr (Or.inr (Or.inr (Or.inl (Int32.toInt_inj.mp (h.trans (by decide)))))))))))))))))))))))
    · exact Or.inr (Or.inr (Or.inr (Or.inr (Or.inr (Or.inr (Or.inr (Or.inr (Or.inr (Or.inr (Or.inr (Or.inr (Or.inr (Or.inr (Or.inr (Or.inr (Or.inr (Or.inr (Or.inr (Or.inr (Or.inr (Or.inl (Int32.toInt_inj.mp (h.trans (by decide))))))))))))))))))))))))
    · exact Or.inr (Or.inr (Or.inr (Or.inr (Or.inr (Or.inr (Or.inr (Or.inr (Or.inr (Or.inr (Or.inr (Or.inr (Or.inr (Or.inr (Or.inr (Or.inr (Or.inr (Or.inr (Or.inr (Or.inr (Or.inr (Or.inr (Or.inl (Int32.toInt_inj.mp (h.trans (by decide)))))))))))))))))))))))))
    · exact Or.inr (Or.inr (Or.inr (Or.inr (Or.inr (Or.inr (Or.inr (Or.inr (Or.inr (Or.inr (Or.inr (Or.inr (Or.inr (Or.inr (Or.inr (Or.inr (Or.inr (Or.inr (Or.inr (Or.inr (Or.inr (Or.inr (Or.inr (Or.inl (Int32.toInt_inj.mp (h.trans (by decide))))))))))))))))))))))))))
theorem sl4 {SL i : Nat} (hSL : SL ≤ 2048) (hi : i ≤ SL) (h : ¬ nI SL - nI 4 < nI i) : i + 4 ≤ SL := by
  rw [Int32.lt_iff_toInt_lt, pk_sub_toInt (by omega) (by omega), nI_toInt (by omega)] at h
  omega

set_option maxHeartbeats 4000000 in
set_option maxRecDepth 100000 in
theorem law_loop {E : Ev} {X : Cx} {sb SL : Nat} {xs : Nat → Int32} (F : FX E X cL_law RL room_1 4) (Y : LX X sb SL xs) (hSL : SL ≤ 2048) (A B : Nat → Nat) (hEnd : ∀ ws lv, GW E X 43 16727 ws lv 805 [.int 1]) : ∀ (nn i : Nat), i ≤ SL → SL - i < nn → LH E X sb A B i := by
  intro nn
  induction nn with
  | zero => intro i _ h; exact absurd h (Nat.not_lt_zero _)
  | succ nn ih =>
    intro i hi hm ln pl li n td br brk chk kn kd mf k rf rg rk kf ks tk tf nl lo gp rad sus gf pf bf zi rfm rgm co bs zt al pp pw ph ps L tN b I rt ra hK hM hR hZ hRm
    refine g_iload_n F 3 rfl dL_law_18 ?_
    refine g_aload_n F 0 rfl dL_law_19 ?_
    refine g_slen F Y dL_law_20 ?_
    refine g_iconst F (nI 4) (by decide) dL_law_21 ?_
    refine g_isub F dL_law_22 ?_
    refine g_icmp_gt F 804 dL_law_23 (by decide) (fun c_23 => ?_) (fun c_23 => ?_)
    · refine g_iconst F 1 (by decide) dL_law_804 ?_
      exact hEnd _ _
    · have hi4 := sl4 hSL hi c_23
      refine g_aload_n F 0 rfl dL_law_26 ?_
      refine g_iload_n F 3 rfl dL_law_27 ?_
      refine g_sld F Y (by omega) (by omega) dL_law_28 ?_
      refine g_bipush F (nI 31) (by decide) dL_law_29 ?_
      refine g_iand F dL_law_31 ?_
      rcases tw24 (xs i &&& nI 31) with h | h | h | h | h | h | h | h | h | h | h | h | h | h | h | h | h | h | h | h | h | h | h | h | h
      · refine g_tabIn F 144 112 dL_law_32 (by rw [h]; decide) (by rw [h]; decide) (by rw [h]; rfl) (by decide) ?_
        exact case_thing F Y A B i hi4 hSL (ih (i + 4) hi4 (by omega)) ln pl li n td br brk chk kn kd mf k rf rg rk kf ks tk tf nl lo gp rad sus gf pf bf zi rfm rgm co bs zt al pp pw ph ps L tN b I rt ra hK hM hR hZ hRm
      · refine g_tabIn F 167 135 dL_law_32 (by rw [h]; decide) (by rw [h]; decide) (by rw [h]; rfl) (by decide) ?_
        exact case_value F Y A B i hi4 hSL (ih (i + 4) hi4 (by omega)) ln pl li n td br brk chk kn kd mf k rf rg rk kf ks tk tf nl lo gp rad sus gf pf bf zi rfm rgm co bs zt al pp pw ph ps L tN b I rt ra hK hM hR hZ hRm
      · refine g_tabIn F 210 178 dL_law_32 (by rw [h]; decide) (by rw [h]; decide) (by rw [h]; rfl) (by decide) ?_
        exact case_tell F Y A B i hi4 hSL (ih (i + 4) hi4 (by omega)) ln pl li n td br brk chk kn kd mf k rf rg rk kf ks tk tf nl lo gp rad sus gf pf bf zi rfm rgm co bs zt al pp pw ph ps L tN b I rt ra hK hM hR hZ hRm
      · refine g_tabIn F 253 221 dL_law_32 (by rw [h]; decide) (by rw [h]; decide) (by rw [h]; rfl) (by decide) ?_
        exact case_kind F Y A B i hi4 hSL (ih (i + 4) hi4 (by omega)) ln pl li n td br brk chk kn kd mf k rf rg rk kf ks tk tf nl lo gp rad sus gf pf bf zi rfm rgm co bs zt al pp pw ph ps L tN b I rt ra hK hM hR hZ hRm
      · refine g_tabIn F 276 244 dL_law_32 (by rw [h]; decide) (by rw [h]; decide) (by rw [h]; rfl) (by decide) ?_
        exact case_distance F Y A B i hi4 hSL (ih (i + 4) hi4 (by omega)) ln pl li n td br brk chk kn kd mf k rf rg rk kf ks tk tf nl lo gp rad sus gf pf bf zi rfm rgm co bs zt al pp pw ph ps L tN b I rt ra hK hM hR hZ hRm
      · refine g_tabIn F 309 277 dL_law_32 (by rw [h]; decide) (by rw [h]; decide) (by rw [h]; rfl) (by decide) ?_
        exact case_law F Y A B i hi4 hSL (ih (i + 4) hi4 (by omega)) ln pl li n td br brk chk kn kd mf k rf rg rk kf ks tk tf nl lo gp rad sus gf pf bf zi rfm rgm co bs zt al pp pw ph ps L tN b I rt ra hK hM hR hZ hRm
      · refine g_tabIn F 322 290 dL_law_32 (by rw [h]; decide) (by rw [h]; decide) (by rw [h]; rfl) (by decide) ?_
        exact case_three F Y A B i hi4 hSL (ih (i + 4) hi4 (by omega)) ln pl li n td br brk chk kn kd mf k rf rg rk kf ks tk tf nl lo gp rad sus gf pf bf zi rfm rgm co bs zt al pp pw ph ps L tN b I rt ra hK hM hR hZ hRm
      · refine g_tabIn F 345 313 dL_law_32 (by rw [h]; decide) (by rw [h]; decide) (by rw [h]; rfl) (by decide) ?_
        exact case_put F Y A B i hi4 hSL (ih (i + 4) hi4 (by omega)) ln pl li n td br brk chk kn kd mf k rf rg rk kf ks tk tf nl lo gp rad sus gf pf bf zi rfm rgm co bs zt al pp pw ph ps L tN b I rt ra hK hM hR hZ hRm
      · refine g_tabIn F 368 336 dL_law_32 (by rw [h]; decide) (by rw [h]; decide) (by rw [h]; rfl) (by decide) ?_
        exact case_drop F Y A B i hi4 hSL (ih (i + 4) hi4 (by omega)) ln pl li n td br brk chk kn kd mf k rf rg rk kf ks tk tf nl lo gp rad sus gf pf bf zi rfm rgm co bs zt al pp pw ph ps L tN b I rt ra hK hM hR hZ hRm
      · refine g_tabIn F 391 359 dL_law_32 (by rw [h]; decide) (by rw [h]; decide) (by rw [h]; rfl) (by decide) ?_
        exact case_has F Y A B i hi4 hSL (ih (i + 4) hi4 (by omega)) ln pl li n td br brk chk kn kd mf k rf rg rk kf ks tk tf nl lo gp rad sus gf pf bf zi rfm rgm co bs zt al pp pw ph ps L tN b I rt ra hK hM hR hZ hRm
      · refine g_tabIn F 414 382 dL_law_32 (by rw [h]; decide) (by rw [h]; decide) (by rw [h]; rfl) (by decide) ?_
        exact case_nearest F Y A B i hi4 hSL (ih (i + 4) hi4 (by omega)) ln pl li n td br brk chk kn kd mf k rf rg rk kf ks tk tf nl lo gp rad sus gf pf bf zi rfm rgm co bs zt al pp pw ph ps L tN b I rt ra hK hM hR hZ hRm
      · refine g_tabIn F 447 415 dL_law_32 (by rw [h]; decide) (by rw [h]; decide) (by rw [h]; rfl) (by decide) ?_
        exact case_within F Y A B i hi4 hSL (ih (i + 4) hi4 (by omega)) ln pl li n td br brk chk kn kd mf k rf rg rk kf ks tk tf nl lo gp rad sus gf pf bf zi rfm rgm co bs zt al pp pw ph ps L tN b I rt ra hK hM hR hZ hRm
      · refine g_tabIn F 480 448 dL_law_32 (by rw [h]; decide) (by rw [h]; decide) (by rw [h]; rfl) (by decide) ?_
        exact case_farthest F Y A B i hi4 hSL (ih (i + 4) hi4 (by omega)) ln pl li n td br brk chk kn kd mf k rf rg rk kf ks tk tf nl lo gp rad sus gf pf bf zi rfm rgm co bs zt al pp pw ph ps L tN b I rt ra hK hM hR hZ hRm
      · refine g_tabIn F 513 481 dL_law_32 (by rw [h]; decide) (by rw [h]; decide) (by rw [h]; rfl) (by decide) ?_
        exact case_result F Y A B i hi4 hSL (ih (i + 4) hi4 (by omega)) ln pl li n td br brk chk kn kd mf k rf rg rk kf ks tk tf nl lo gp rad sus gf pf bf zi rfm rgm co bs zt al pp pw ph ps L tN b I rt ra hK hM hR hZ hRm
      · refine g_tabIn F 546 514 dL_law_32 (by rw [h]; decide) (by rw [h]; decide) (by rw [h]; rfl) (by decide) ?_
        exact case_closest F Y A B i hi4 hSL (ih (i + 4) hi4 (by omega)) ln pl li n td br brk chk kn kd mf k rf rg rk kf ks tk tf nl lo gp rad sus gf pf bf zi rfm rgm co bs zt al pp pw ph ps L tN b I rt ra hK hM hR hZ hRm
      · refine g_tabIn F 569 537 dL_law_32 (by rw [h]; decide) (by rw [h]; decide) (by rw [h]; rfl) (by decide) ?_
        exact case_centres F Y A B i hi4 hSL (ih (i + 4) hi4 (by omega)) ln pl li n td br brk chk kn kd mf k rf rg rk kf ks tk tf nl lo gp rad sus gf pf bf zi rfm rgm co bs zt al pp pw ph ps L tN b I rt ra hK hM hR hZ hRm
      · refine g_tabIn F 592 560 dL_law_32 (by rw [h]; decide) (by rw [h]; decide) (by rw [h]; rfl) (by decide) ?_
        exact case_best F Y A B i hi4 hSL (ih (i + 4) hi4 (by omega)) ln pl li n td br brk chk kn kd mf k rf rg rk kf ks tk tf nl lo gp rad sus gf pf bf zi rfm rgm co bs zt al pp pw ph ps L tN b I rt ra hK hM hR hZ hRm
      · refine g_tabIn F 615 583 dL_law_32 (by rw [h]; decide) (by rw [h]; decide) (by rw [h]; rfl) (by decide) ?_
        exact case_chain F Y A B i hi4 hSL (ih (i + 4) hi4 (by omega)) ln pl li n td br brk chk kn kd mf k rf rg rk kf ks tk tf nl lo gp rad sus gf pf bf zi rfm rgm co bs zt al pp pw ph ps L tN b I rt ra hK hM hR hZ hRm
      · refine g_tabIn F 639 607 dL_law_32 (by rw [h]; decide) (by rw [h]; decide) (by rw [h]; rfl) (by decide) ?_
        exact case_pair F Y A B i hi4 hSL (ih (i + 4) hi4 (by omega)) ln pl li n td br brk chk kn kd mf k rf rg rk kf ks tk tf nl lo gp rad sus gf pf bf zi rfm rgm co bs zt al pp pw ph ps L tN b I rt ra hK hM hR hZ hRm
      · refine g_tabIn F 672 640 dL_law_32 (by rw [h]; decide) (by rw [h]; decide) (by rw [h]; rfl) (by decide) ?_
        exact case_clusters F Y A B i hi4 hSL (ih (i + 4) hi4 (by omega)) ln pl li n td br brk chk kn kd mf k rf rg rk kf ks tk tf nl lo gp rad sus gf pf bf zi rfm rgm co bs zt al pp pw ph ps L tN b I rt ra hK hM hR hZ hRm
      · refine g_tabIn F 695 663 dL_law_32 (by rw [h]; decide) (by rw [h]; decide) (by rw [h]; rfl) (by decide) ?_
        exact case_cluster F Y A B i hi4 hSL (ih (i + 4) hi4 (by omega)) ln pl li n td br brk chk kn kd mf k rf rg rk kf ks tk tf nl lo gp rad sus gf pf bf zi rfm rgm co bs zt al pp pw ph ps L tN b I rt ra hK hM hR hZ hRm
      · refine g_tabIn F 728 696 dL_law_32 (by rw [h]; decide) (by rw [h]; decide) (by rw [h]; rfl) (by decide) ?_
        exact case_net F Y A B i hi4 hSL (ih (i + 4) hi4 (by omega)) ln pl li n td br brk chk kn kd mf k rf rg rk kf ks tk tf nl lo gp rad sus gf pf bf zi rfm rgm co bs zt al pp pw ph ps L tN b I rt ra hK hM hR hZ hRm
      · refine g_tabIn F 751 719 dL_law_32 (by rw [h]; decide) (by rw [h]; decide) (by rw [h]; rfl) (by decide) ?_
        exact case_middle F Y A B i hi4 hSL (ih (i + 4) hi4 (by omega)) ln pl li n td br brk chk kn kd mf k rf rg rk kf ks tk tf nl lo gp rad sus gf pf bf zi rfm rgm co bs zt al pp pw ph ps L tN b I rt ra hK hM hR hZ hRm
      · refine g_tabIn F 775 743 dL_law_32 (by rw [h]; decide) (by rw [h]; decide) (by rw [h]; rfl) (by decide) ?_
        exact case_count F Y A B i hi4 hSL (ih (i + 4) hi4 (by omega)) ln pl li n td br brk chk kn kd mf k rf rg rk kf ks tk tf nl lo gp rad sus gf pf bf zi rfm rgm co bs zt al pp pw ph ps L tN b I rt ra hK hM hR hZ hRm
      · refine g_tabOut F 798 dL_law_32 h (by decide) ?_
        refine g_iinc F (nI (i + 4)) 3 3 [(0, .ref sb), (1, .ref (A 0)), (2, .ref (B 0)), (3, .int (nI (i + 4)))] [1, 2, 3, 0] dL_law_798 rfl (n_inc4 i) (by decide) rfl ?_
        refine g_goto F 18 dL_law_801 (by decide) ?_
        exact ih (i + 4) hi4 (by omega) ln pl li n td br brk chk kn kd mf k rf rg rk kf ks tk tf nl lo gp rad sus gf pf bf zi rfm rgm co bs zt al pp pw ph ps L tN b I rt ra hK hM hR hZ hRm

theorem inv_0 (br : Nat → Int32) : NBK 0 0 (fun _ => 0) (fun _ => 0) (fun _ => 0) (fun _ => 0) (fun _ => 0) br (nI 0) (nI 0) (fl (fun _ => 0) 3600 (-1)) := by
  refine ⟨by decide, by decide, fun t _ => ⟨rfl, (by decide : 0 ≤ 8)⟩, fun j _ => ⟨(by decide : (-1000 : Int) ≤ (0 : Int32).toInt), (by decide : (0 : Int32).toInt ≤ (1000 : Int))⟩, fun j _ => ⟨rfl, (by decide : 0 ≤ 100000)⟩, ⟨fun a b _ _ => rfl, fun a _ => rfl⟩, Or.inr ⟨0, by decide, rfl, Or.inl ⟨rfl, fun a b c h => absurd h (Nat.not_lt_zero a)⟩⟩, fun a b ha hb => ?_⟩
  rw [fl_at (by omega), fl_at (by omega)]
  exact ⟨rfl, Or.inl rfl⟩
theorem inv_1 (b : Nat → Nat) : NBB 0 (fun _ => 0) 0 b (fun _ => false) := ⟨⟨by decide, fun i h => absurd h (Nat.not_lt_zero i), fun i j _ h => absurd h (Nat.not_lt_zero j)⟩, fun t => ⟨fun h => (by cases h), fun ⟨i, h, _⟩ => absurd h (Nat.not_lt_zero i)⟩, fun t h => (by cases h)⟩
theorem inv_2 : ZI 0 (fun _ => 0) (fun _ => false) := ⟨fun t _ => rfl, fun t h => (by cases h)⟩
theorem inv_3 (f g : Nat → Int32) (a b : Nat → Nat) : NBR 0 f g a b := ⟨by decide, fun i h => absurd h (Nat.not_lt_zero i)⟩

set_option maxHeartbeats 4000000 in
set_option maxRecDepth 100000 in
theorem law_start {E : Ev} {X : Cx} {sb SL : Nat} {xs : Nat → Int32} (F : FX E X cL_law RL room_1 4) (NSF : NSX X) (Y : LX X sb SL xs) (hSL : SL ≤ 2048) (hEnd : ∀ ws lv, GW E X 43 16727 ws lv 805 [.int 1]) : GW E X 0 0 [] [(0, .ref sb)] 0 [] := by
  refine g_new F 10 [.null, .null, .null, .null, .null, .null, .null, .null, .null, .null] 1 10 rfl rfl inX10 tyX10 tyX10_ok tw_cl_L_7 tw_ib_X10 tw_in_X10 rfl (fun j hj => by rcases (show j = 0 ∨ j = 1 ∨ j = 2 ∨ j = 3 ∨ j = 4 ∨ j = 5 ∨ j = 6 ∨ j = 7 ∨ j = 8 ∨ j = 9 by omega) with rfl | rfl | rfl | rfl | rfl | rfl | rfl | rfl | rfl | rfl <;> rfl) (Nat.le_of_ble_eq_true rfl) (Nat.le_of_ble_eq_true rfl) dL_law_0 (fun q0 => ?_)
  refine g_ws [ob q0 10 [.null, .null, .null, .null, .null, .null, .null, .null, .null, .null]] rfl ?_
  refine g_dup F rfl dL_law_3 ?_
  refine g_cI F NSF (wr := []) [.ref q0] 29 8466 rfl rfl (c_X10_init E q0) ⟨tw_ml_L_9, tw_im_X10_init, tw_in_X10, tw_co_X10_init⟩ rfl 0 rfl (by decide) ⟨rfl, rfl, by decide, by decide, Nat.le_of_ble_eq_true rfl, Nat.le_of_ble_eq_true rfl⟩ [0] [] [0, 1, 2, 3, 4, 5, 6, 7, 8, 9, 10, 11, 12, 13, 14, 15, 16, 17, 18, 19, 20, 21, 22, 23, 24, 25, 26, 27, 28] (fun u => [ob (u 0) 10 [.ref (u 1), .ref (u 5), .ref (u 8), .ref (u 10), .ref (u 12), .ref (u 15), .ref (u 17), .ref (u 21), .ref (u 23), .ref (u 25)], ob (u 1) 8 [.ref (u 2), .ref (u 3), .ref (u 4), .int (nI 0)], ia E (u 2) 60 (fun _ => 0), ia E (u 3) 480 (fun _ => 0), ia E (u 4) 9 (fun _ => 0), ob (u 5) 9 [.ref (u 6), .ref (u 7), .int (nI 0), .int (nI 0)], ia E (u 6) 3600 (fun _ => 0), ia E (u 7) 3 (fun _ => 0), ob (u 8) 3 [.ref (u 1), .ref (u 5), .ref (u 9), .int (nI 0)], ia E (u 9) 3600 (fl (fun _ => 0) 3600 (-1)), ob (u 10) 5 [.ref (u 11), .int (nI 0)], ia E (u 11) 60 (fun _ => 0), ob (u 12) 7 [.ref (u 13), .ref (u 14), .int (nI 0)], ia E (u 13) 60 (fun _ => 0), ia E (u 14) 60 (fun _ => 0), ob (u 15) 4 [.ref (u 16), .int (nI 0)], ia E (u 16) 60 (fun _ => 0), ob (u 17) 2 [.ref (u 10), .ref (u 8), .ref (u 18), .ref (u 20)], ob (u 18) 4 [.ref (u 19), .int (nI 0)], ia E (u 19) 60 (fun _ => 0), ia E (u 20) 60 (fun _ => 0), ob (u 21) 6 [.ref (u 10), .ref (u 8), .ref (u 22)], ia E (u 22) 60 (fun _ => 0), ob (u 23) 1 [.ref (u 10), .ref (u 8), .ref (u 24)], ia E (u 24) 60 (fun _ => 0), ob (u 25) 0 [.ref (u 10), .ref (u 8), .ref (u 26), .ref (u 27), .ref (u 28), .int (nI 0), .int (nI 0)], ia E (u 26) 180 (fun _ => 0), ia E (u 27) 3 (fun _ => 0), ia E (u 28) 3 (fun _ => 0)]) rfl rfl (by decide) (fun _ => rfl) rfl (Nat.le_of_ble_eq_true rfl) dL_law_4 (fun u hu_4 => ?_)
  revert hu_4; revert u; intro A hu_4
  refine g_ws [ob (A 0) 10 [.ref (A 1), .ref (A 5), .ref (A 8), .ref (A 10), .ref (A 12), .ref (A 15), .ref (A 17), .ref (A 21), .ref (A 23), .ref (A 25)], ob (A 1) 8 [.ref (A 2), .ref (A 3), .ref (A 4), .int (nI 0)], ia E (A 2) 60 (fun _ => 0), ia E (A 3) 480 (fun _ => 0), ia E (A 4) 9 (fun _ => 0), ob (A 5) 9 [.ref (A 6), .ref (A 7), .int (nI 0), .int (nI 0)], ia E (A 6) 3600 (fun _ => 0), ia E (A 7) 3 (fun _ => 0), ob (A 8) 3 [.ref (A 1), .ref (A 5), .ref (A 9), .int (nI 0)], ia E (A 9) 3600 (fl (fun _ => 0) 3600 (-1)), ob (A 10) 5 [.ref (A 11), .int (nI 0)], ia E (A 11) 60 (fun _ => 0), ob (A 12) 7 [.ref (A 13), .ref (A 14), .int (nI 0)], ia E (A 13) 60 (fun _ => 0), ia E (A 14) 60 (fun _ => 0), ob (A 15) 4 [.ref (A 16), .int (nI 0)], ia E (A 16) 60 (fun _ => 0), ob (A 17) 2 [.ref (A 10), .ref (A 8), .ref (A 18), .ref (A 20)], ob (A 18) 4 [.ref (A 19), .int (nI 0)], ia E (A 19) 60 (fun _ => 0), ia E (A 20) 60 (fun _ => 0), ob (A 21) 6 [.ref (A 10), .ref (A 8), .ref (A 22)], ia E (A 22) 60 (fun _ => 0), ob (A 23) 1 [.ref (A 10), .ref (A 8), .ref (A 24)], ia E (A 24) 60 (fun _ => 0), ob (A 25) 0 [.ref (A 10), .ref (A 8), .ref (A 26), .ref (A 27), .ref (A 28), .int (nI 0), .int (nI 0)], ia E (A 26) 180 (fun _ => 0), ia E (A 27) 3 (fun _ => 0), ia E (A 28) 3 (fun _ => 0)] rfl ?_
  subst hu_4
  refine g_astore_n F 1 [(0, .ref sb), (1, .ref (A 0))] [1, 0] dL_law_7 rfl (by decide) rfl ?_
  refine g_new F 11 [.int (nI 0), .int (nI 0), .null, .null, .null, .null, .int (nI 0), .null, .null, .null, .null, .null, .null, .null, .int (nI 0), .null, .null] 30 8483 rfl rfl inX11 tyX11 tyX11_ok tw_cl_L_10 tw_ib_X11 tw_in_X11 rfl (fun j hj => by rcases (show j = 0 ∨ j = 1 ∨ j = 2 ∨ j = 3 ∨ j = 4 ∨ j = 5 ∨ j = 6 ∨ j = 7 ∨ j = 8 ∨ j = 9 ∨ j = 10 ∨ j = 11 ∨ j = 12 ∨ j = 13 ∨ j = 14 ∨ j = 15 ∨ j = 16 by omega) with rfl | rfl | rfl | rfl | rfl | rfl | rfl | rfl | rfl | rfl | rfl | rfl | rfl | rfl | rfl | rfl | rfl <;> rfl) (Nat.le_of_ble_eq_true rfl) (Nat.le_of_ble_eq_true rfl) dL_law_8 (fun q8 => ?_)
  refine g_ws [ob (A 0) 10 [.ref (A 1), .ref (A 5), .ref (A 8), .ref (A 10), .ref (A 12), .ref (A 15), .ref (A 17), .ref (A 21), .ref (A 23), .ref (A 25)], ob (A 1) 8 [.ref (A 2), .ref (A 3), .ref (A 4), .int (nI 0)], ia E (A 2) 60 (fun _ => 0), ia E (A 3) 480 (fun _ => 0), ia E (A 4) 9 (fun _ => 0), ob (A 5) 9 [.ref (A 6), .ref (A 7), .int (nI 0), .int (nI 0)], ia E (A 6) 3600 (fun _ => 0), ia E (A 7) 3 (fun _ => 0), ob (A 8) 3 [.ref (A 1), .ref (A 5), .ref (A 9), .int (nI 0)], ia E (A 9) 3600 (fl (fun _ => 0) 3600 (-1)), ob (A 10) 5 [.ref (A 11), .int (nI 0)], ia E (A 11) 60 (fun _ => 0), ob (A 12) 7 [.ref (A 13), .ref (A 14), .int (nI 0)], ia E (A 13) 60 (fun _ => 0), ia E (A 14) 60 (fun _ => 0), ob (A 15) 4 [.ref (A 16), .int (nI 0)], ia E (A 16) 60 (fun _ => 0), ob (A 17) 2 [.ref (A 10), .ref (A 8), .ref (A 18), .ref (A 20)], ob (A 18) 4 [.ref (A 19), .int (nI 0)], ia E (A 19) 60 (fun _ => 0), ia E (A 20) 60 (fun _ => 0), ob (A 21) 6 [.ref (A 10), .ref (A 8), .ref (A 22)], ia E (A 22) 60 (fun _ => 0), ob (A 23) 1 [.ref (A 10), .ref (A 8), .ref (A 24)], ia E (A 24) 60 (fun _ => 0), ob (A 25) 0 [.ref (A 10), .ref (A 8), .ref (A 26), .ref (A 27), .ref (A 28), .int (nI 0), .int (nI 0)], ia E (A 26) 180 (fun _ => 0), ia E (A 27) 3 (fun _ => 0), ia E (A 28) 3 (fun _ => 0), ob q8 11 [.int (nI 0), .int (nI 0), .null, .null, .null, .null, .int (nI 0), .null, .null, .null, .null, .null, .null, .null, .int (nI 0), .null, .null]] rfl ?_
  refine g_dup F rfl dL_law_11 ?_
  refine g_cI F NSF (wr := [ob (A 0) 10 [.ref (A 1), .ref (A 5), .ref (A 8), .ref (A 10), .ref (A 12), .ref (A 15), .ref (A 17), .ref (A 21), .ref (A 23), .ref (A 25)], ob (A 1) 8 [.ref (A 2), .ref (A 3), .ref (A 4), .int (nI 0)], ia E (A 2) 60 (fun _ => 0), ia E (A 3) 480 (fun _ => 0), ia E (A 4) 9 (fun _ => 0), ob (A 5) 9 [.ref (A 6), .ref (A 7), .int (nI 0), .int (nI 0)], ia E (A 6) 3600 (fun _ => 0), ia E (A 7) 3 (fun _ => 0), ob (A 8) 3 [.ref (A 1), .ref (A 5), .ref (A 9), .int (nI 0)], ia E (A 9) 3600 (fl (fun _ => 0) 3600 (-1)), ob (A 10) 5 [.ref (A 11), .int (nI 0)], ia E (A 11) 60 (fun _ => 0), ob (A 12) 7 [.ref (A 13), .ref (A 14), .int (nI 0)], ia E (A 13) 60 (fun _ => 0), ia E (A 14) 60 (fun _ => 0), ob (A 15) 4 [.ref (A 16), .int (nI 0)], ia E (A 16) 60 (fun _ => 0), ob (A 17) 2 [.ref (A 10), .ref (A 8), .ref (A 18), .ref (A 20)], ob (A 18) 4 [.ref (A 19), .int (nI 0)], ia E (A 19) 60 (fun _ => 0), ia E (A 20) 60 (fun _ => 0), ob (A 21) 6 [.ref (A 10), .ref (A 8), .ref (A 22)], ia E (A 22) 60 (fun _ => 0), ob (A 23) 1 [.ref (A 10), .ref (A 8), .ref (A 24)], ia E (A 24) 60 (fun _ => 0), ob (A 25) 0 [.ref (A 10), .ref (A 8), .ref (A 26), .ref (A 27), .ref (A 28), .int (nI 0), .int (nI 0)], ia E (A 26) 180 (fun _ => 0), ia E (A 27) 3 (fun _ => 0), ia E (A 28) 3 (fun _ => 0)]) [.ref q8] 43 16727 rfl rfl (c_X11_init E q8) ⟨tw_ml_L_12, tw_im_X11_init, tw_in_X11, tw_co_X11_init⟩ rfl 0 rfl (by decide) ⟨rfl, rfl, by decide, by decide, Nat.le_of_ble_eq_true rfl, Nat.le_of_ble_eq_true rfl⟩ [29] [0, 1, 2, 3, 4, 5, 6, 7, 8, 9, 10, 11, 12, 13, 14, 15, 16, 17, 18, 19, 20, 21, 22, 23, 24, 25, 26, 27, 28] [0, 1, 2, 3, 4, 5, 6, 7, 8, 9, 10, 11, 12, 13, 14, 15, 16, 17, 18, 19, 20, 21, 22, 23, 24, 25, 26, 27, 28, 29, 30, 31, 32, 33, 34, 35, 36, 37, 38, 39, 40, 41, 42] (fun u => [ob (A 0) 10 [.ref (A 1), .ref (A 5), .ref (A 8), .ref (A 10), .ref (A 12), .ref (A 15), .ref (A 17), .ref (A 21), .ref (A 23), .ref (A 25)], ob (A 1) 8 [.ref (A 2), .ref (A 3), .ref (A 4), .int (nI 0)], ia E (A 2) 60 (fun _ => 0), ia E (A 3) 480 (fun _ => 0), ia E (A 4) 9 (fun _ => 0), ob (A 5) 9 [.ref (A 6), .ref (A 7), .int (nI 0), .int (nI 0)], ia E (A 6) 3600 (fun _ => 0), ia E (A 7) 3 (fun _ => 0), ob (A 8) 3 [.ref (A 1), .ref (A 5), .ref (A 9), .int (nI 0)], ia E (A 9) 3600 (fl (fun _ => 0) 3600 (-1)), ob (A 10) 5 [.ref (A 11), .int (nI 0)], ia E (A 11) 60 (fun _ => 0), ob (A 12) 7 [.ref (A 13), .ref (A 14), .int (nI 0)], ia E (A 13) 60 (fun _ => 0), ia E (A 14) 60 (fun _ => 0), ob (A 15) 4 [.ref (A 16), .int (nI 0)], ia E (A 16) 60 (fun _ => 0), ob (A 17) 2 [.ref (A 10), .ref (A 8), .ref (A 18), .ref (A 20)], ob (A 18) 4 [.ref (A 19), .int (nI 0)], ia E (A 19) 60 (fun _ => 0), ia E (A 20) 60 (fun _ => 0), ob (A 21) 6 [.ref (A 10), .ref (A 8), .ref (A 22)], ia E (A 22) 60 (fun _ => 0), ob (A 23) 1 [.ref (A 10), .ref (A 8), .ref (A 24)], ia E (A 24) 60 (fun _ => 0), ob (A 25) 0 [.ref (A 10), .ref (A 8), .ref (A 26), .ref (A 27), .ref (A 28), .int (nI 0), .int (nI 0)], ia E (A 26) 180 (fun _ => 0), ia E (A 27) 3 (fun _ => 0), ia E (A 28) 3 (fun _ => 0), ob (u 0) 11 [.int (nI 0), .int (nI 0), .ref (u 1), .ref (u 2), .ref (u 3), .ref (u 4), .int (nI 0), .ref (u 5), .ref (u 6), .ref (u 7), .ref (u 8), .ref (u 9), .ref (u 10), .ref (u 11), .int (nI 0), .ref (u 12), .ref (u 13)], ia E (u 1) 60 (fun _ => 0), ia E (u 2) 480 (fun _ => 0), ia E (u 3) 3600 (fun _ => 0), za E (u 4) 60 (fun _ => 0), ia E (u 5) 60 (fun _ => 0), ia E (u 6) 60 (fun _ => 0), ia E (u 7) 81 (fun _ => 0), ia E (u 8) 3 (fun _ => 0), za E (u 9) 60 (fun _ => 0), ia E (u 10) 3600 (fun _ => 0), ia E (u 11) 60 (fun _ => 0), ia E (u 12) 60 (fun _ => 0), ia E (u 13) 60 (fun _ => 0)]) rfl rfl (by decide) (fun _ => rfl) rfl (Nat.le_of_ble_eq_true rfl) dL_law_12 (fun u hu_12 => ?_)
  revert hu_12; revert u; intro B hu_12
  refine g_ws [ob (A 0) 10 [.ref (A 1), .ref (A 5), .ref (A 8), .ref (A 10), .ref (A 12), .ref (A 15), .ref (A 17), .ref (A 21), .ref (A 23), .ref (A 25)], ob (A 1) 8 [.ref (A 2), .ref (A 3), .ref (A 4), .int (nI 0)], ia E (A 2) 60 (fun _ => 0), ia E (A 3) 480 (fun _ => 0), ia E (A 4) 9 (fun _ => 0), ob (A 5) 9 [.ref (A 6), .ref (A 7), .int (nI 0), .int (nI 0)], ia E (A 6) 3600 (fun _ => 0), ia E (A 7) 3 (fun _ => 0), ob (A 8) 3 [.ref (A 1), .ref (A 5), .ref (A 9), .int (nI 0)], ia E (A 9) 3600 (fl (fun _ => 0) 3600 (-1)), ob (A 10) 5 [.ref (A 11), .int (nI 0)], ia E (A 11) 60 (fun _ => 0), ob (A 12) 7 [.ref (A 13), .ref (A 14), .int (nI 0)], ia E (A 13) 60 (fun _ => 0), ia E (A 14) 60 (fun _ => 0), ob (A 15) 4 [.ref (A 16), .int (nI 0)], ia E (A 16) 60 (fun _ => 0), ob (A 17) 2 [.ref (A 10), .ref (A 8), .ref (A 18), .ref (A 20)], ob (A 18) 4 [.ref (A 19), .int (nI 0)], ia E (A 19) 60 (fun _ => 0), ia E (A 20) 60 (fun _ => 0), ob (A 21) 6 [.ref (A 10), .ref (A 8), .ref (A 22)], ia E (A 22) 60 (fun _ => 0), ob (A 23) 1 [.ref (A 10), .ref (A 8), .ref (A 24)], ia E (A 24) 60 (fun _ => 0), ob (A 25) 0 [.ref (A 10), .ref (A 8), .ref (A 26), .ref (A 27), .ref (A 28), .int (nI 0), .int (nI 0)], ia E (A 26) 180 (fun _ => 0), ia E (A 27) 3 (fun _ => 0), ia E (A 28) 3 (fun _ => 0), ob (B 0) 11 [.int (nI 0), .int (nI 0), .ref (B 1), .ref (B 2), .ref (B 3), .ref (B 4), .int (nI 0), .ref (B 5), .ref (B 6), .ref (B 7), .ref (B 8), .ref (B 9), .ref (B 10), .ref (B 11), .int (nI 0), .ref (B 12), .ref (B 13)], ia E (B 1) 60 (fun _ => 0), ia E (B 2) 480 (fun _ => 0), ia E (B 3) 3600 (fun _ => 0), za E (B 4) 60 (fun _ => 0), ia E (B 5) 60 (fun _ => 0), ia E (B 6) 60 (fun _ => 0), ia E (B 7) 81 (fun _ => 0), ia E (B 8) 3 (fun _ => 0), za E (B 9) 60 (fun _ => 0), ia E (B 10) 3600 (fun _ => 0), ia E (B 11) 60 (fun _ => 0), ia E (B 12) 60 (fun _ => 0), ia E (B 13) 60 (fun _ => 0)] rfl ?_
  subst hu_12
  refine g_astore_n F 2 [(0, .ref sb), (1, .ref (A 0)), (2, .ref (B 0))] [1, 2, 0] dL_law_15 rfl (by decide) rfl ?_
  refine g_iconst F (nI 0) (by decide) dL_law_16 ?_
  refine g_istore_n F 3 [(0, .ref sb), (1, .ref (A 0)), (2, .ref (B 0)), (3, .int (nI 0))] [1, 2, 3, 0] dL_law_17 rfl (by decide) rfl ?_
  exact law_loop F Y hSL A B hEnd (SL + 1) 0 (Nat.zero_le _) (by omega) (fun _ => 0) (fun _ => 0) (fun _ => 0) 0 (fun _ => 0) (fun _ => 0) (nI 0) (nI 0) (fl (fun _ => 0) 3600 (-1)) 0 (fun _ => 0) 0 (fun _ => 0) (fun _ => 0) 0 (fun _ => 0) (nI 0) (nI 0) (fun _ => 0) (fun _ => 0) (fun _ => 0) (fun _ => 0) (nI 0) (nI 0) (fun _ => 0) (fun _ => 0) (fun _ => 0) (fun _ => 0) (fun _ => 0) (fun _ => 0) (fun _ => 0) (fun _ => 0) (fun _ => 0) (fun _ => 0) (fun _ => 0) (fun _ => 0) (fun _ => 0) (nI 0) (fun _ => 0) (fun _ => 0) (fun _ => 0) (fun _ => false) (fun _ => 0) (fun _ => 0) (inv_0 _) (inv_1 _) (inv_3 _ _ _ _) inv_2 (inv_3 _ _ _ _)

set_option maxHeartbeats 4000000 in
set_option maxRecDepth 100000 in
theorem whole_start {p : Program} {e : Env} {s : State} {m : MethodId} {below : List Frame} {meth : Method} {c : Code} (l : Launch) {b L : Nat} {xs : Nat → Int32} (hL : L ≤ 2048) (C0 : lw_At p s m meth c b L xs) : W p l e room_1 s m #[Value.ref b] below meth c s.heap [] 0 0 (lw_Z below #[Value.ref b] s) (entryFrame m ([Value.ref b] : List Value).toArray 4) := by
  obtain ⟨hx, hb, hr, hml, hown, hts, hX, hbl, hlocks, hgv⟩ := id C0
  have hg : ∀ w ∈ lw_g, w.before #[Value.ref b] s = true := fun w h => hts w (gi_tbl w h)
  obtain ⟨c0, i0, hk0⟩ := u_known (C := RX0) (T := TX0) (N := 7) (n := 7) hg inX0 (hg _ tw_ib_X0)
  obtain ⟨c1, i1, hk1⟩ := u_known (C := RX1) (T := TX1) (N := 3) (n := 3) hg inX1 (hg _ tw_ib_X1)
  obtain ⟨c2, i2, hk2⟩ := u_known (C := RX2) (T := TX2) (N := 4) (n := 4) hg inX2 (hg _ tw_ib_X2)
  obtain ⟨c3, i3, hk3⟩ := u_known (C := RX3) (T := TX3) (N := 4) (n := 4) hg inX3 (hg _ tw_ib_X3)
  obtain ⟨c4, i4, hk4⟩ := u_known (C := RX4) (T := TX4) (N := 2) (n := 2) hg inX4 (hg _ tw_ib_X4)
  obtain ⟨c5, i5, hk5⟩ := u_known (C := RX5) (T := TX5) (N := 2) (n := 2) hg inX5 (hg _ tw_ib_X5)
  obtain ⟨c6, i6, hk6⟩ := u_known (C := RX6) (T := TX6) (N := 3) (n := 3) hg inX6 (hg _ tw_ib_X6)
  obtain ⟨c7, i7, hk7⟩ := u_known (C := RX7) (T := TX7) (N := 3) (n := 3) hg inX7 (hg _ tw_ib_X7)
  obtain ⟨c8, i8, hk8⟩ := u_known (C := RX8) (T := TX8) (N := 4) (n := 4) hg inX8 (hg _ tw_ib_X8)
  obtain ⟨c9, i9, hk9⟩ := u_known (C := RX9) (T := TX9) (N := 4) (n := 4) hg inX9 (hg _ tw_ib_X9)
  obtain ⟨c10, i10, hk10⟩ := u_known (C := RX10) (T := TX10) (N := 10) (n := 10) hg inX10 (hg _ tw_ib_X10)
  obtain ⟨c11, i11, hk11⟩ := u_known (C := RX11) (T := TX11) (N := 17) (n := 17) hg inX11 (hg _ tw_ib_X11)
  obtain ⟨cI, kI, mI, hI1, hI2, hI3⟩ := Cond.arrayClass_spec (hg _ tw_ac_int)
  obtain ⟨cZ, kZ, mZ, hZ1, hZ2, hZ3⟩ := Cond.arrayClass_spec (hg _ tw_ac_boolean)
  obtain ⟨dC, dI, hKc⟩ : ∃ (dC : Nat → ClassId) (dI : Nat → Nat → Nat), ∀ (k : Nat) (q : vw_C), vwCl[k]? = some q → u_Kn s q.1 q.2.1 q.2.2 (dC k) (dI k) := by
    refine ⟨fun k => ([c0, c1, c2, c3, c4, c5, c6, c7, c8, c9, c10, c11] : List ClassId).getD k c0, fun k => ([i0, i1, i2, i3, i4, i5, i6, i7, i8, i9, i10, i11] : List (Nat → Nat)).getD k i0, ?_⟩
    intro k q hq
    match k, hq with
    | 0, hq => cases hq; exact hk0
    | 1, hq => cases hq; exact hk1
    | 2, hq => cases hq; exact hk2
    | 3, hq => cases hq; exact hk3
    | 4, hq => cases hq; exact hk4
    | 5, hq => cases hq; exact hk5
    | 6, hq => cases hq; exact hk6
    | 7, hq => cases hq; exact hk7
    | 8, hq => cases hq; exact hk8
    | 9, hq => cases hq; exact hk9
    | 10, hq => cases hq; exact hk10
    | 11, hq => cases hq; exact hk11
    | k + 12, hq => simp [vwCl] at hq
  have hK : va_K (dC, dI) vwCl (tyl cI cZ) s := ⟨hKc, fun k q h => by
    match k, h with
    | 0, h => cases h; exact ⟨fun n z => ⟨fun k h => (by cases h), kI, hI2, mI, hI3⟩, hI1⟩
    | 1, h => cases h; exact ⟨fun n z => ⟨fun k h => (by cases h), kZ, hZ2, mZ, hZ3⟩, hZ1⟩
    | k + 2, h => simp [tyl] at h⟩
  have F : FX (l, (dC, dI), cI, cZ) (p, e, room_1, s, m, #[Value.ref b], below, meth, c, lw_Z below #[Value.ref b] s, (fun q : Nat => s.heap.size ≤ q), 4) cL_law RL room_1 4 := ⟨hx, hb, hml, hown, hg, hK, fun q h => h, rfl, rfl, hlocks⟩
  have hl := lv_entry ([.ref b]) (n := 4) (Nat.le_of_ble_eq_true rfl)
  rw [lg_entry_eq]
  refine law_start F (NS.of hts) (sb := b) (SL := L) (xs := xs) ⟨hX, hbl, Nat.not_le.mpr hbl⟩ hL (fun ws lv H locs ls hP hD hS hl => va_forget (fun q hq => hS.2.2 q hq) (lw_ret hx hb hr hlocks dL_law_805)) s.heap [] _ (fun k q h => by simp at h) ⟨fun i j p q h => by simp at h, fun k q h => by simp at h⟩ va_S.rf hl
