-- ===== caught =====
/-- the search of a table of one entry, whose class may have to be resolved first -/
theorem jc_find {e : Env} {S : State} {f : JFrame} {a : Addr} {meth : Method} {cd : Code} {w : ExceptionTableEntry} (hm : S.vm.method? f.method = some meth) (hc : meth.code = some cd) (ht : cd.exceptionTable.toList = [w]) (hx : covers w f.pc = true) (h0 : w.catchType ≠ 0) {k : ClassId} {cell : Cell} (hl : S.vm.ClassLinks e.platform f.method.cls w.catchType k) (hcell : S.heap[a]? = some cell) (hobj : ∀ z, cell.vm ≠ .statics z) (hk : ∃ q, S.vm.classes[cell.cls]? = some q) (hk2 : ∃ q, S.vm.classes[k]? = some q) (hfit : S.vm.assignable cell.cls k = true) (Q : Handler → Pre) (E : CtlPost) (d : Bool) (acts : List Action) : wp (findHandler f a) Q E e d acts S ↔ Q (.found w.handlerPc) d acts (S.setVm (S.vm.noted f.method.cls w.catchType (.cls k))) := by
  rw [_root_.Jvm.W.findHandler_eq hm hc, ht]
  have hal : S.vm.Alike (S.vm.noted f.method.cls w.catchType (.cls k)) := (Vm.Alike.refl S.vm).noted _ _ _
  obtain ⟨a1, a2⟩ := hk
  obtain ⟨b1, b2⟩ := hk2
  obtain ⟨a3, a4, -⟩ := hal.2.2 _ _ a2
  obtain ⟨b3, b4, -⟩ := hal.2.2 _ _ b2
  have hf2 : (S.vm.noted f.method.cls w.catchType (.cls k)).assignable cell.cls k = true := (hal.assignable _ _).trans hfit
  obtain ⟨r1, r2⟩ := (resolveClass_links e.toSetting hl).op (op := VmOp.resolveClass f.method.cls w.catchType) rfl
  unfold covers at hx
  simp [findHandler.go, VmOp.dirties, VmOp.acts, hx, h0, r1, r2, hcell, hobj, a4, b4, hf2]
theorem jc_step {tb : Tables} {e : Env} {T target : State} {g : JFrame} {c : Code} {below : List Frame} {a : Addr} (h : At T g.method c below) {pc : Nat} {vm' : Vm}
    (hf : ∀ (Q : Handler → Pre) (E : CtlPost) (d : Bool) (acts : List Action), wp (findHandler g a) Q E e d acts ((T.setTop g).pushFrame (.throwing a)) ↔ Q (.found pc) d acts (((T.setTop g).pushFrame (.throwing a)).setVm vm'))
    (hr : Steps tb e below ((T.setVm vm').setTop { g with pc := pc, stack := [.ref a] }) target) : Steps tb e below ((T.setTop g).pushFrame (.throwing a)) target := by
  obtain ⟨y1, y2⟩ := h.throwing a
  refine Steps.head y1 y2 ?_
  have hs : ∀ r : List Frame, (stepThrowing e ((T.setTop g).pushFrame (.throwing a)) a (.java g :: r)).Is ((((T.setTop g).pushFrame (.throwing a)).setVm vm').setFrames (.java { g with pc := pc, stack := [.ref a] } :: r)) [] := fun r => by
    simp only [stepThrowing, searchFrame, vmDo]
    generalize hz : Sem.go _ e false [] ((T.setTop g).pushFrame (.throwing a)) = res
    obtain ⟨as, rfl, hq⟩ := Sem.eq_ok_of hz (a := Handler.found pc) (s' := ((T.setTop g).pushFrame (.throwing a)).setVm vm') (acts' := []) (by simp [hf _ _ _ _])
    exact ⟨rfl, hq⟩
  obtain ⟨g0, z1⟩ := Option.isSome_iff_exists.mp h.top
  obtain ⟨r, z2⟩ := State.topJava?_eq_some.mp z1
  have z3 : (T.setVm vm').frames = .java g0 :: r := z2
  rw [State.setTop_of_frames _ z3] at hr
  rw [stepThread_throwing (frames_entered h.top _), (hs _).1, z2, List.tail_cons, State.pushFrame, State.setTop_of_frames _ z2, State.setFrames_setFrames]
  have e1 : ∀ F G : List Frame, ((T.setFrames F).setVm vm').setFrames G = (T.setVm vm').setFrames G := fun F G => by
    have : (T.setFrames F).setVm vm' = (T.setVm vm').setFrames F := rfl
    rw [this, State.setFrames_setFrames]
  rw [e1]
  exact hr
theorem w_link7 : Cond.methodLink (jy 109).cls 7 (jy 20) ∈ jwords := jmw 515 (by decide +kernel) (by decide +kernel)
section
variable {sv : Nat → Value} {d a : Nat} {Mm : jM} {Q : Option Value → jM → Prop} {st : List Value} {l0 l1 l2 l3 l4 : Option Value} {x : Int32}
theorem s_L_at_13 (hw : jw l3 = true) : Ev sv d (109, 13, [l0, l1, l2, l3, l4], .ref a :: st) Mm Q ↔ Ev sv d (109, 15, [l0, l1, l2, l3, some (.ref a)], st) Mm Q := R_st1 (jj := 3) (h_L_at dL_at_13) rfl rfl hw (by decide : (4 : Nat) < 5)
theorem s_L_at_15 : Ev sv d (109, 15, [l0, l1, l2, l3, l4], st) Mm Q ↔ Ev sv d (109, 16, [l0, l1, l2, l3, l4], .int (1 : Int32) :: st) Mm Q := R_pure (h_L_at dL_at_15) rfl
theorem s_L_at_16 : Ev sv d (109, 16, [l0, l1, l2, l3, l4], [.int x]) Mm Q ↔ Q (some (.int x)) Mm := R_iret (h_L_at dL_at_16) rfl
end
section JCT
variable {p : Program} {l : Launch} {e : Env} {R : Room} {s : State} {m : MethodId} {args : Array Value} {below : List Frame} {meth : Method} {c : Code} {T : State} {sv : Nat → Value} {D : va_G} {E : Nat → ClassId} {M : jM}
set_option maxHeartbeats 4000000 in
/-- the class's at called by the law's: thrown and caught -/
theorem jthrV (hfl : l.flags = flags0) {o : Nat} {x y : Int32} (hno : jno M o x y = true) (X : Stand p l e R s m args below meth c T [] 0 0) (hT : T.heap = s.heap) (hx : p.tables.exec = Jvm.exec) (hb : c.code = jcode 109) (hml : c.maxLocals = jmaxl 109) (hown : s.vm.findClass (jy 109).cls = some m.cls) (hS : jSim D E s.heap M) (hU : jU sv D E (jA M) s) (hX : jXs (jA M) s)
    (htab : c.exceptionTable.toList.map (fun h => (h.startPc, h.endPc, h.handlerPc, h.catchType)) = [(0, 10, 13, 13)]) {ls : Array Slot} (hls : ls.size = jmaxl 109) {rest : List Value} (hrs : jcat rest ≤ 8) (hfr : 9 ≤ R.frames) (hlo : 350 ≤ R.locals) (hce : 1 ≤ R.cells) (hsl : 6 ≤ R.slots) :
    ∃ T' : State, Stand p l e R s m args below meth c T' [] (0 + 1) (0 + 6) ∧ jSim D E T'.heap (M.1 + 1, M.2.1 + 6, M.2.2.1, M.2.2.2) ∧ (∀ q, q < s.heap.size → T'.heap[q]? = s.heap[q]?) ∧ ∀ target, Steps p.tables e below (T'.setTop (F0 m 13 ls [.ref M.1])) target → Steps p.tables e below (T.setTop (F0 m 5 ls (.int y :: .int x :: .ref o :: rest))) target := by
  have hW := hU.1
  obtain ⟨n, pr, n', c0, q1, q2, q3, q4, q5⟩ := jno_inv hno
  have hmt : jmt (jow 109) 7 = some (0, 20, 2, 6) := rfl
  obtain ⟨-, ⟨hcode, hini, hmh, har, hpl, hmx⟩, hm0, -, -⟩ := jmt_ok hmt
  obtain ⟨hinst, q, hq, hκ, hsel⟩ := hm0 rfl
  obtain ⟨-, cell, z1, z2, z3, -⟩ := jcell_obj (hS.2 o 6 n q1) hκ hq
  have hcls : s.vm.findClass q.1 = some cell.cls := by rw [z2]; exact (hU.2.1.1 6 _ hq).2.1
  obtain ⟨mk, methM, hnamed, hmethM, hstM, habM⟩ := Cond.instanceMethod_spec (hW _ hinst args)
  obtain ⟨methM', cM, hmethM', -, -, -, -, -, -, hsigM⟩ := Cond.code_spec hnamed (hW _ hcode args)
  cases hmethM.symm.trans hmethM'
  obtain ⟨c2, r2, m2, s1, s2, s3, s4, kP, hkP, hkPi⟩ := Cond.selects_spec (hW _ hsel args)
  cases hcls.symm.trans s1
  cases (State.methodFound?_of_named hnamed hmh).symm.trans s2
  cases hnamed.symm.trans s3
  have hselP : selectMethod e.platform s.vm cell.cls mk = .method mk := by rw [Launch.admits_selectMethod X.admits]; exact s4
  obtain ⟨vm₁, X₁, hstep₁⟩ := X.invokevirtual hx hown (hW _ w_link7 args) hnamed hmethM hstM hkP hkPi hmh (a := o) (cell := cell) (by rw [hT]; exact z1) (fun z h => by rw [z3] at h; cases h) hselP hmethM habM hkP hkPi (g := F0 m 5 ls (.int y :: .int x :: .ref o :: rest)) rfl (argsL := [.int x, .int y]) (rest := rest) (by
    rw [hsigM] at har
    exact (Option.some.inj har).symm) rfl (by rw [hb]; exact h_L_at dL_at_5)
  have hWU : jW (T.setVm vm₁) := jW_warm X₁.warmed hW
  have hHU : (T.setVm vm₁).heap = s.heap := hT
  have hn := X₁.named hnamed
  obtain ⟨methY, cY, hmY, hcY, -, hlY, -⟩ := Cond.code_spec hn (hWU _ hcode #[.ref o, .int x, .int y])
  obtain ⟨kY, hkY, -⟩ := className_of_methodNamed hn
  have hinitY : kY.init = .initialized := Cond.initialized_spec (findClass_of_methodNamed hn) hkY (hWU _ hini #[.ref o, .int x, .int y])
  have hat : At (T.setVm vm₁) (F0 m 5 ls rest).method c below := X₁.here
  have happ : (headSpec (jWs 20) (jRm 8 1 6)).appliesLoose (jy 20) e.platform ((T.setVm vm₁).calling (F0 m 5 ls rest) mk #[.ref o, .int x, .int y]) = true :=
    Spec.appliesLoose_calling (g := F0 m 5 ls rest) hat (by rw [hb]; exact h_L_at dL_at_5) hn hkY hinitY
      (X₁.room_calling (g := F0 m 5 ls rest) (R' := (headSpec (jWs 20) (jRm 8 1 6)).room) (by rw [hml]; exact hls) hmY hcY hfr (by
        rw [hlY]
        show 2 * 0 + jcat rest + (3 + 11) + 320 ≤ _
        omega) (by show 0 + 1 ≤ _; omega) (by show 0 + 6 ≤ _; omega)) (atoms_intro fun w hw => jcode_w hW hcode w hw _ _ X₁.warmed)
  obtain ⟨mid, hmid⟩ := hat.above
  have hfrm : ((T.setVm vm₁).setTop (F0 m 5 ls rest)).frames = (.java (F0 m 5 ls rest) :: mid) ++ below := by rw [State.frames_setTop' _ hat.top, hmid]; rfl
  have hP : jPt sv D E M [.ref o, .int x, .int y] #[.ref o, .int x, .int y] ((T.setVm vm₁).calling (F0 m 5 ls rest) mk #[.ref o, .int x, .int y]) := jPt_blind _ _ _ _ ⟨⟨rfl, by rw [hHU]; exact hS, jU_call hU X₁.warmed hHU va_S.rf (fun _ h => h)⟩, hX.call X₁.warmed hHU va_S.rf (fun _ h => h)⟩
  obtain ⟨oo, s₂, hsteps, -, hend, hqq⟩ := Steps.callFree (at_throws hfl hno) p X.admits X.cas X.clock (acts := []) hfrm happ hP trivial
  obtain ⟨rfl, ⟨hWm, hsame⟩, hsim, hkeep, ce, hce0, hcc, hca, hcv⟩ := hqq
  obtain ⟨g₀, hfe⟩ := X₁.frames_eq
  rw [State.frames_setTop' _ hat.top, hfe] at hend
  obtain ⟨T', X', hW', hB, ht⟩ := X₁.outOfThrown (g := F0 m 5 ls rest) rfl (mk := mk) (a := #[.ref o, .int x, .int y]) hend hWm hsame
  have hheap : s₂.heap = T'.heap := by rw [ht, Stand.throwing_heap]
  rw [hheap] at hsim hkeep hce0
  have hpl2 : e.platform.magicAccessors = ({} : Platform).magicAccessors := by rw [X.admits.platform]
  obtain ⟨cT, hcT, hcl⟩ := Cond.classLink_spec hown (hW _ w_catch args) e.platform hpl2
  have hcc' : s.vm.findClass nmX = some ce.cls := by
    have h1 : (T.setVm vm₁).vm.findClass nmX = some ce.cls := hcc
    rw [X₁.warmed.alike.findClass] at h1
    exact h1
  cases hcT.symm.trans hcc'
  have hca' : s.vm.assignable ce.cls ce.cls = true := by
    have h1 : (T.setVm vm₁).vm.assignable ce.cls ce.cls = true := hca
    rw [X₁.warmed.alike.assignable] at h1
    exact h1
  obtain ⟨dk, _, _, kt, hd, _, _, _, _, hkt, _, hopen⟩ := hcl.here
  have hcl' := X'.warmed.classLinks hcl
  have hW2 : s.WarmedH (T'.vm.noted m.cls 13 (.cls ce.cls)) := X'.warmed.noted hd hopen (State.rightAt_cls hcl)
  have hal := X'.warmed.alike
  obtain ⟨kt', hkt', -⟩ := hal.2.2 _ _ hkt
  have hfit : T'.vm.assignable ce.cls ce.cls = true := by rw [hal.assignable]; exact hca'
  obtain ⟨w, hw, w1, w2, w3, w4⟩ : ∃ w : ExceptionTableEntry, c.exceptionTable.toList = [w] ∧ w.startPc = 0 ∧ w.endPc = 10 ∧ w.handlerPc = 13 ∧ w.catchType = 13 := by
    generalize c.exceptionTable.toList = L at htab
    cases L with
    | nil => cases htab
    | cons w r =>
      cases r with
      | nil =>
        simp only [List.map_cons, List.map_nil, List.cons.injEq, Prod.mk.injEq, and_true] at htab
        exact ⟨w, rfl, htab.1, htab.2.1, htab.2.2.1, htab.2.2.2⟩
      | cons _ _ => simp at htab
  have X2 := X'.noted hW2
  refine ⟨T'.setVm (T'.vm.noted m.cls 13 (.cls ce.cls)), X2, hsim, fun q hq => (hkeep q (by show q < (T.setVm vm₁).heap.size; rw [hHU]; exact hq)).trans (by show (T.setVm vm₁).heap[q]? = _; rw [hHU]), fun target hg => hstep₁ _ fun acts => ?_⟩
  rw [doInvoke_state]
  refine Steps.trans hsteps ?_
  rw [ht]
  refine jc_step (g := F0 m 5 ls rest) X'.here (pc := 13) (fun Q E d acts => ?_) hg
  have := jc_find (e := e) (S := (T'.setTop (F0 m 5 ls rest)).pushFrame (.throwing M.1)) (f := F0 m 5 ls rest) (a := M.1) (meth := meth) (cd := c) (w := w) X'.method' X'.code hw (by unfold covers; rw [w1, w2]; rfl) (by rw [w4]; decide) (k := ce.cls) (cell := ce) (by rw [w4]; exact hcl') (by rw [Stand.throwing_heap]; exact hce0) (fun z h => by rw [hcv] at h; cases h) ⟨kt', hkt'⟩ ⟨kt', hkt'⟩ hfit Q E d acts
  rw [w3, w4] at this
  exact this
/-- the law's at, thrown -/
def jWl : List Cond := [Cond.codeWith (jy 109) (jcode 109) (jmaxl 109) (jret 109) [(0, 10, 13, 13)]]
set_option maxHeartbeats 4000000 in
theorem lawAt_thrown (hfl : l.flags = flags0) {o b : Nat} {x y : Int32} (hno : jno M o x y = true) : Met l (jy 109) jWl (jRm 9 1 6) (jPt sv D E M [.ref o, .int x, .int y, .ref b]) (jQ D E M (M.1 + 1, M.2.1 + 6, M.2.2.1, M.2.2.2) (some (.int 1))) 1 6 (jA M) := by
  refine va_MetW (cc := jcode 109) (maxL := jmaxl 109) (ret := jret 109) (hh := [(0, 10, 13, 13)]) (by decide) rfl ?_
  intro p e s m args below meth c s₁ B hml hP
  obtain ⟨⟨rfl, hS, hU⟩, hX⟩ := hP
  have hx := B.exec
  have hb := B.bytes
  have hown := findClass_of_methodNamed B.named
  have hCx : jCx sv D E (jA M) p s m meth c 109 := ⟨B.exec, B.bytes, hml, findClass_of_methodNamed B.named, (name_of_methodNamed B.named B.method).1, B.returns, B.notSynchronized, hU⟩
  have hcw : (Cond.codeWith (jy 109) (jcode 109) (jmaxl 109) (jret 109) [(0, 10, 13, 13)]).before [Value.ref o, Value.int x, Value.int y, Value.ref b].toArray s = true := atoms_spec (ws := jWl) B.pre _ List.mem_cons_self
  rw [lg_entry_eq]
  have hl0 : jlv ((lg_sl [Value.ref o, Value.int x, Value.int y, Value.ref b] ++ List.replicate (jmaxl 109 - (lg_sl [Value.ref o, Value.int x, Value.int y, Value.ref b]).length) Slot.unset).toArray) (jmaxl 109) [some (.ref o), some (.int x), some (.int y), some (.ref b), none] := jlv_entry (vs := [.ref o, .int x, .int y, .ref b]) (n := jmaxl 109) (Nat.le_succ 4)
  generalize (lg_sl [Value.ref o, Value.int x, Value.int y, Value.ref b] ++ List.replicate (jmaxl 109 - (lg_sl [Value.ref o, Value.int x, Value.int y, Value.ref b]).length) Slot.unset).toArray = ls0 at hl0 ⊢
  refine jpure_sound hx hb (h_L_at dL_at_0) rfl hl0 (fun ls1 hl1 => ?_)
  refine jpure_sound hx hb (h_L_at dL_at_1) rfl hl1 (fun ls2 hl2 => ?_)
  refine jpure_sound hx hb (h_L_at dL_at_2) rfl hl2 (fun ls3 hl3 => ?_)
  refine jpure_sound hx hb (h_L_at dL_at_3) rfl hl3 (fun ls4 hl4 => ?_)
  refine jpure_sound hx hb (h_L_at dL_at_4) rfl hl4 (fun ls5 hl5 => ?_)
  intro T hT X
  have htab : c.exceptionTable.toList.map (fun h => (h.startPc, h.endPc, h.handlerPc, h.catchType)) = [(0, 10, 13, 13)] := by
    obtain ⟨m9, methY, cY, hn9, hmY, hcY, -, -, ht, -⟩ := Cond.codeWith_spec hcw
    cases B.named.symm.trans hn9
    cases B.method.symm.trans hmY
    cases X.code.symm.trans hcY
    exact ht
  obtain ⟨T', X', hsim, hkeep, hst⟩ := jthrV (sv := sv) (D := D) (E := E) (M := M) (o := o) (x := x) (y := y) (ls := ls5) (rest := [.int 0, .ref b]) hfl hno X hT hx hb hml hown hS hU hX htab hl5.2.1 (by show 1 + (1 + 0) ≤ 8; omega) (Nat.le_refl 9) (by decide) (Nat.le_refl 1) (Nat.le_refl 6)
  have hev : Ev sv 0 (109, 13, [some (.ref o), some (.int x), some (.int y), some (.ref b), none], [.ref M.1]) (M.1 + 1, M.2.1 + 6, M.2.2.1, M.2.2.2) (fun r M' => r = some (.int 1) ∧ M' = (M.1 + 1, M.2.1 + 6, M.2.2.1, M.2.2.2)) := by
    simp only [s_L_at_13, s_L_at_15, s_L_at_16, tl_some, tl_none, cv_int, cv_ref, cv_null, cv_long, cat_rf, jcv_nil, jcat_cons, jv_none, jv_int, jv_ref, jv_null, jw_rf, rf_some, rf_none, bz_0, bz_1, i1_0, i0_0, if_true, if_false, ite_self, List.nil_append, List.cons_append, Nat.reduceAdd, Nat.reduceLeDiff, Nat.zero_le, Nat.le_refl, and_self, and_true, true_and, not_true_eq_false, not_false_eq_true, reduceIte]
  obtain ⟨n, r, M', hrun, rfl, rfl⟩ := hev
  have hsz : s.heap.size = M.1 := hS.1
  have K := jsound0 sv D E l n 0 (109, 13, [some (.ref o), some (.int x), some (.int y), some (.ref b), none], [.ref M.1]) _ _ _ hrun (by show 109 < 110; omega) p e (headSpec jWl (jRm 9 1 6)).room s m [Value.ref o, Value.int x, Value.int y, Value.ref b].toArray below meth c T'.heap [] (0 + 1) (0 + 6) (MQ below (jQ D E M (M.1 + 1, M.2.1 + 6, M.2.2.1, M.2.2.2) (some (.int 1))) [Value.ref o, Value.int x, Value.int y, Value.ref b].toArray s 1 6 (jA M)) (jA M) ls5 hCx hsim ⟨by rw [hsim.1, hsz]; exact Nat.le_succ _, fun q h1 _ => hkeep q h1, fun q hq => absurd hq (List.not_mem_nil)⟩ (fun q hq => by
    rcases hq with ⟨κ, n, h1, h2⟩ | h1
    · exact Or.inl ⟨κ, n, h1, h2⟩
    · exact Or.inr (Nat.le_of_succ_le h1)) hl5 (by rw [Nat.sub_self]; exact Nat.le_refl 1) (by rw [Nat.sub_self]; exact Nat.le_refl 6) (Nat.zero_le _) (Nat.zero_le _) (fun H' locs' pc' ls' r1 r2 he => by
      rw [Nat.sub_self, Nat.sub_self]
      exact jend_sound hCx he r1 r2)
  obtain ⟨t2, a1, b1⟩ := K T' rfl X'
  exact ⟨t2, hst t2 a1, b1⟩
/-- the law's at, where it returns as its code says -/
theorem lawAt_met {n d : Nat} {As : List Value} {M1 : jM} {r : Option Value} (hr : jrun sv n d (109, 0, jent (jmaxl 109) As, []) M = some (r, M1)) (hlen : (jarg As).length ≤ jmaxl 109) : Met l (jy 109) jWl (jRm d (M1.1 - M.1) (M1.2.1 - M.2.1)) (jP sv D E M As) (jQ D E M M1 r) (M1.1 - M.1) (M1.2.1 - M.2.1) (jA M) := by
  refine va_MetW (cc := jcode 109) (maxL := jmaxl 109) (ret := jret 109) (hh := [(0, 10, 13, 13)]) (by decide) rfl ?_
  intro p e s m args below meth c s₁ B hml hP
  obtain ⟨rfl, hS, hU⟩ := hP
  have hCx : jCx sv D E (jA M) p s m meth c 109 := ⟨B.exec, B.bytes, hml, findClass_of_methodNamed B.named, (name_of_methodNamed B.named B.method).1, B.returns, B.notSynchronized, hU⟩
  rw [lg_entry_eq]
  refine jsound0 sv D E l n d _ M r M1 hr (by show 109 < 110; omega) p e _ s m As.toArray below meth c s.heap [] 0 0 _ (jA M) _ hCx hS va_S.rf (fun _ h => h) (jlv_entry hlen) ?_ ?_ ?_ ?_ (fun H' locs' pc' ls' r1 r2 he => ?_)
  · show 0 + (M1.1 - M.1) ≤ M1.1 - M.1
    omega
  · show 0 + (M1.2.1 - M.2.1) ≤ M1.2.1 - M.2.1
    omega
  · exact Nat.le_refl d
  · exact Nat.le_refl (d * 40)
  · rw [Nat.zero_add, Nat.zero_add]
    exact jend_sound hCx he r1 r2
/-- the law's call of its at -/
theorem jrunL {pc : Nat} (hd : decode (jcode 110) pc = .ok (.invokestatic 66, 3)) {H : Heap} {locs : List Loc} {cells slots mc ms dd : Nat} {Pc : Array Value → State → Prop} {Qc : Array Value → State → Outcome → State → Prop} {free : Addr → Prop} {As rest : List Value} {ls : Array Slot} (hx : p.tables.exec = Jvm.exec) (hb : c.code = jcode 110) (hml : c.maxLocals = jmaxl 110) (hown : s.vm.findClass (jy 110).cls = some m.cls) (hW : jW s) (hM : Met l (jy 109) jWl (jRm dd mc ms) Pc Qc mc ms free) (hp : PreS s H Pc As) (hn : As.length = 4) (hls : ls.size = jmaxl 110) (hrs : jcat rest ≤ 8) (hfr : dd + 1 ≤ R.frames) (hlo : (dd + 1) * 40 ≤ R.locals) (hf : cells + mc ≤ R.cells ∧ slots + ms ≤ R.slots) :
    va_Run p l e R s m args below meth c H locs cells slots mc ms (F0 m pc ls (As.reverse ++ rest)) rest (Qc As.toArray) free := by
  have hwl : ∀ w ∈ jWl, ∀ (a' : Array Value) (U : State), s.WarmedH U.vm → w.before a' U = true := fun w hw a' U hWm => by
    have e : w = Cond.codeWith (jy 109) (jcode 109) (jmaxl 109) (jret 109) [(0, 10, 13, 13)] := by simpa [jWl] using hw
    rw [e]
    exact jW_warm hWm hW _ w_with a'
  have hK : Back l R p e below s args (jy 109) 3 8 (PreOf R mc ms Pc) (PostOf Qc mc ms free) := va_backW (bytes := jcode 109) (maxL := jmaxl 109) (ret := jret 109) (hh := [(0, 10, 13, 13)]) hM hp.1 rfl rfl hfr (by show 8 + (5 + 11) + dd * 40 ≤ _; omega) hwl List.mem_cons_self (fun a' U hWm => jW_warm hWm hW _ w_iniL a')
  intro T hT X
  obtain ⟨mk, methM, cM, hnamed, hmethM, -, -, -, -, -, -, hsigM⟩ := Cond.codeWith_spec (hW _ w_with args)
  have hstatic : methM.isStatic = true := Cond.static_spec hnamed hmethM (hW _ w_stat args)
  obtain ⟨kP, hkP, -⟩ := className_of_methodNamed hnamed
  have hinitP : kP.init = .initialized := Cond.initialized_spec (findClass_of_methodNamed hnamed) hkP (hW _ w_iniL args)
  have hdg : decode c.code (F0 m pc ls (As.reverse ++ rest)).pc = .ok (.invokestatic 66, 3) := by rw [hb]; exact hd
  obtain ⟨vm₁, X₁, hstep₁⟩ := X.invokestatic hx hown (hW _ w_link66 args) hnamed hmethM hstatic hkP hinitP (by decide) (g := F0 m pc ls (As.reverse ++ rest)) rfl (argsL := As) (rest := rest) (by
    have : parseMethodDescriptor (jy 109).desc = some methM.sig := hsigM
    have h4 : (parseMethodDescriptor (jy 109).desc).map (fun s => s.parameters.length) = some 4 := by decide +kernel
    rw [this] at h4
    rw [hn]
    exact (Option.some.inj h4).symm) rfl hdg
  obtain ⟨v, Bp, X', hpost, hsteps⟩ := hK m meth c ⟨T.setVm vm₁, locs, cells, slots⟩ (F0 m pc ls rest) (.invokestatic 66) mk As.toArray X₁ rfl (by rw [hml]; exact hls) hdg (by show 2 * 0 + jcat rest ≤ 8; omega) (X₁.named hnamed) ⟨hf.1, hf.2, hp.2 (T.setVm vm₁) hT X₁.warmed⟩
  obtain ⟨U', l2, c2, s2⟩ := Bp
  obtain ⟨g', mk', t, L, e1, e2, hq, h1, hL, h2, h3⟩ := hpost
  dsimp only [Pt.U, Pt.locs, Pt.cells, Pt.slots] at X' e1 e2 h1 h2 h3 hsteps
  subst h1; subst h2; subst h3
  exact ⟨v, (T.setVm vm₁).calling g' mk' As.toArray, t, U', L, hT, X', hL, e1, e2, hq, fun target h => hstep₁ _ fun acts => by rw [doInvoke_state]; exact hsteps.trans h⟩
end JCT
