-- ===== a throw =====
/-- a static that holds a reference, outside what may be written -/
def jSx (A : Nat → Prop) (C n d : String) (s : State) : Prop := ∃ (c : ClassId) (k : Class) (i : Nat) (f : Field) (a : Nat) (cell : Cell) (v : Value), s.vm.findClass C = some c ∧ s.fieldFound? C n d = some (c, k, i, f) ∧ f.isStatic = true ∧ k.statics = some a ∧ s.heap[a]? = some cell ∧ cell.vm.isStatics = true ∧ cell.cls = c ∧ f.slot < cell.slots.size ∧ k.staticTypes[f.slot]? = some f.type ∧ cell.slots[f.slot]? = some v ∧ v.isRef = true ∧ ¬ A a
theorem jSx.call {A B : Nat → Prop} {C n d : String} {s U : State} {H : Heap} {locs : List Loc} (h : jSx A C n d s) (hW : s.WarmedH U.vm) (hH : U.heap = H) (hS : va_S A s.heap H locs) (hAB : ∀ q, B q → A q) : jSx B C n d U := by
  obtain ⟨c, k, i, f, a, cell, v, h1, h2, h3, h4, h5, h6, h7, h8, h9, h10, h11, h12⟩ := h
  obtain ⟨k', hi', hek⟩ := State.fieldFound?_setVm hW.alike h2
  refine ⟨c, k', i, f, a, cell, v, by rw [hW.alike.findClass]; exact h1, hi', h3, by rw [hek]; exact h4, ?_, h6, h7, h8, by rw [hek]; exact h9, h10, h11, fun z => h12 (hAB a z)⟩
  rw [hH, hS.2.1 a (Array.getElem?_eq_some_iff.mp h5).1 h12]
  exact h5
theorem jSx.lays {A : Nat → Prop} {C n d : String} {s : State} {args : Array Value} (h : jSx A C n d s) : (Cond.laysStatic C n d).before args s = true := by
  obtain ⟨c, k, i, f, a, cell, v, h1, h2, h3, h4, h5, h6, h7, h8, h9, -⟩ := h
  exact Cond.laysStatic_of h1 h2 h3 h4 h5 h6 h7 h8 h9
theorem jSx.ev {A : Nat → Prop} {C n d : String} {s : State} {args : Array Value} (h : jSx A C n d s) : ∃ v : Value, (Term.static C n d).eval args s none [] s = some v ∧ v.isRef = true := by
  obtain ⟨c, k, i, f, a, cell, v, h1, h2, h3, h4, h5, h6, h7, h8, h9, h10, h11, -⟩ := h
  exact ⟨v, by simp [Term.eval, State.fieldNamed?, h2, h3, h4, h5, h6, h10], h11⟩
theorem jSx.rf {A : Nat → Prop} {C n d : String} {s : State} {args : Array Value} (h : jSx A C n d s) : (Cond.isRef (.static C n d)).before args s = true := by
  obtain ⟨v, h1, h2⟩ := h.ev (args := args)
  cases v <;> first | (simp [Cond.before, Cond.holds, Cond.value, h1]; done) | (cases h2; done)
theorem jSx.of {A : Nat → Prop} {C n d : String} {s : State} {args : Array Value} (hl : (Cond.laysStatic C n d).before args s = true) (hr : (Cond.isRef (.static C n d)).before args s = true) (hA : ∀ a : Nat, a < s.heap.size → ¬ A a) : jSx A C n d s := by
  obtain ⟨c, k, i, f, a, cell, hc, hi, hst, ha, hcell, hs, hcls, hlt, hty⟩ := Cond.laysStatic_spec hl
  cases hv : (Term.static C n d).eval args s none [] s with
  | none => simp [Cond.before, Cond.holds, Cond.value, hv] at hr
  | some v =>
    obtain ⟨hst', a', cell', ha', hcell', -, hslot⟩ := Term.static_spec hi hv
    cases ha.symm.trans ha'
    cases hcell.symm.trans hcell'
    refine ⟨c, k, i, f, a, cell, v, hc, hi, hst, ha, hcell, hs, hcls, hlt, hty, hslot, ?_, hA a (Array.getElem?_eq_some_iff.mp hcell).1⟩
    cases v <;> first | rfl | (simp [Cond.before, Cond.holds, Cond.value, hv] at hr; done)
/-- what a throw needs beside the tables -/
def jXs (A : Nat → Prop) (s : State) : Prop := jSx A Bundle.tN "UNASSIGNED_STACK" Bundle.steD s ∧ jSx A Bundle.tN "SUPPRESSED_SENTINEL" Bundle.listD s ∧ ∃ q, vk_R "ReportWriter" 178 "no such line or column" q s
theorem jXs.call {A B : Nat → Prop} {s U : State} {H : Heap} {locs : List Loc} (h : jXs A s) (hW : s.WarmedH U.vm) (hH : U.heap = H) (hS : va_S A s.heap H locs) (hAB : ∀ q, B q → A q) : jXs B U := by
  obtain ⟨h1, h2, q, h3⟩ := h
  exact ⟨h1.call hW hH hS hAB, h2.call hW hH hS hAB, q, h3.warm hW⟩
theorem own_hold {A : Nat → Prop} {s : State} (hW : jW s) (hX : jXs A s) (args : Array Value) : ∀ w ∈ Bundle.ownAtoms "ReportWriter" 180 nmX nmC, w.before args s = true := fun w hw => by
  rcases own_words w hw with h | rfl | rfl | rfl | rfl
  · exact hW w h args
  · exact hX.1.lays
  · exact hX.2.1.lays
  · exact hX.1.rf
  · exact hX.2.1.rf
theorem sbn_eq {s s' : State} {k n : Nat} (h : s.sameButNew s' [] k n) (q : Nat) (hq : q < s.heap.size) : s'.heap[q]? = s.heap[q]? := by
  obtain ⟨-, -, -, -, -, h6⟩ := h
  obtain ⟨c, hc⟩ : ∃ c, s.heap[q]? = some c := ⟨s.heap[q], by simp [hq]⟩
  obtain ⟨c', h1, h2, h3, h4⟩ := h6 q c hc
  have e : c'.slots = c.slots := by
    refine Array.ext_getElem? (fun i => ?_)
    exact h4 i (List.not_mem_nil)
  rw [h1, hc, h2, e]
theorem jno_inv {M : jM} {o : Nat} {x y : Int32} (h : jno M o x y = true) : ∃ n pr n' c, M.2.2.1 o = some (6, n) ∧ M.2.2.2 6 8 o = .ref pr ∧ M.2.2.1 pr = some (3, n') ∧ M.2.2.2 3 1 pr = .int c ∧ (x < 0 ∨ ¬ x < c ∨ y < 0 ∨ ¬ y < 5) := by
  unfold jno at h
  split at h
  · rename_i n pr h1 h2
    split at h
    · rename_i n' c h3 h4
      exact ⟨n, pr, n', c, h1, h2, h3, h4, of_decide_eq_true h⟩
    · cases h
  · cases h
section JT
variable {l : Launch} {sv : Nat → Value} {D : va_G} {E : Nat → ClassId} {M : jM}
/-- Printed.has, where it says no: nothing is written -/
def jQh : Array Value → State → Outcome → State → Prop := fun _ st o t => o = .returned (some (.int 0)) ∧ t.heap = st.heap
theorem has_met {pr n' : Nat} {x y c0 : Int32} (hg : M.2.2.1 pr = some (3, n')) (hc : M.2.2.2 3 1 pr = .int c0) (hno : x < 0 ∨ ¬ x < c0 ∨ y < 0 ∨ ¬ y < 5) : Met l (jy 7) (jWs 7) (jRm 0 0 0) (jP sv D E M [.ref pr, .int x, .int y]) jQh 0 0 (fun _ => False) := by
  refine Met.ofW (cc := jcode 7) (maxL := jmaxl 7) (ret := jret 7) (by decide) rfl ?_
  intro p e s m args below meth c s₁ B hml hP
  obtain ⟨rfl, hS, hU⟩ := hP
  have hx := B.exec
  have hb := B.bytes
  have hown := findClass_of_methodNamed B.named
  rw [lg_entry_eq]
  have hl0 : jlv ((lg_sl [Value.ref pr, Value.int x, Value.int y] ++ List.replicate (jmaxl 7 - (lg_sl [Value.ref pr, Value.int x, Value.int y]).length) Slot.unset).toArray) (jmaxl 7) [some (.ref pr), some (.int x), some (.int y)] := jlv_entry (vs := [.ref pr, .int x, .int y]) (n := jmaxl 7) (Nat.le_refl 3)
  generalize (lg_sl [Value.ref pr, Value.int x, Value.int y] ++ List.replicate (jmaxl 7 - (lg_sl [Value.ref pr, Value.int x, Value.int y]).length) Slot.unset).toArray = ls0 at hl0 ⊢
  have W25 : ∀ ls : Array Slot, jlv ls (jmaxl 7) [some (.ref pr), some (.int x), some (.int y)] → W p l e (headSpec (jWs 7) (jRm 0 0 0)).room s m [Value.ref pr, Value.int x, Value.int y].toArray below meth c s.heap [] 0 0 (MQ below jQh [Value.ref pr, Value.int x, Value.int y].toArray s 0 0 (fun _ => False)) (F0 m 25 ls []) := fun ls hl => by
    refine jpure_sound hx hb (h_X1_has dX1_has_25) rfl hl (fun ls' _ => ?_)
    exact W.zret hx hb (B.returns.trans rfl) rfl (fun t ht _ => ⟨rfl, ht⟩) (fun q hq => absurd hq (List.not_mem_nil)) (h_X1_has dX1_has_26)
  refine jpure_sound hx hb (h_X1_has dX1_has_0) rfl hl0 (fun ls1 hl1 => ?_)
  by_cases h1 : x < 0
  · exact jbr_sound hx hb (h_X1_has dX1_has_1) (t := 25) (st' := []) (by simp [jbr, show jtg 1 24 = some 25 from rfl, jcb_lt.mpr h1]) (W25 _ hl1)
  refine jbr_sound hx hb (h_X1_has dX1_has_1) (t := 4) (st' := []) (by simp [jbr, show jtg 1 24 = some 25 from rfl, show jcb .lt x 0 = false from by simpa using fun q => h1 (jcb_lt.mp q)]) ?_
  refine jpure_sound hx hb (h_X1_has dX1_has_4) rfl hl1 (fun ls2 hl2 => ?_)
  refine jpure_sound hx hb (h_X1_has dX1_has_5) rfl hl2 (fun ls3 hl3 => ?_)
  obtain ⟨C, T, N, hcl, hκ, hk, hL⟩ := jfl_ok (μ := 7) (idx := 16) (κ := 3) (k := 1) rfl
  obtain ⟨t, u, g, V⟩ := M
  refine jget_sound hx hb hU.1 hU.2.1 hown hcl hk hL hS hg hκ (h_X1_has dX1_has_6) ?_
  have hc : V 3 1 pr = .int c0 := hc
  rw [hc]
  by_cases h2 : x < c0
  · refine jbr_sound hx hb (h_X1_has dX1_has_9) (t := 12) (st' := []) (by simp [jbr, show jtg 9 16 = some 25 from rfl, show jcb .ge x c0 = false from by simpa using fun q => (jcb_ge.mp q) h2]) ?_
    refine jpure_sound hx hb (h_X1_has dX1_has_12) rfl hl3 (fun ls4 hl4 => ?_)
    by_cases h3 : y < 0
    · exact jbr_sound hx hb (h_X1_has dX1_has_13) (t := 25) (st' := []) (by simp [jbr, show jtg 13 12 = some 25 from rfl, jcb_lt.mpr h3]) (W25 _ hl4)
    refine jbr_sound hx hb (h_X1_has dX1_has_13) (t := 16) (st' := []) (by simp [jbr, show jtg 13 12 = some 25 from rfl, show jcb .lt y 0 = false from by simpa using fun q => h3 (jcb_lt.mp q)]) ?_
    refine jpure_sound hx hb (h_X1_has dX1_has_16) rfl hl4 (fun ls5 hl5 => ?_)
    refine jpure_sound hx hb (h_X1_has dX1_has_17) rfl hl5 (fun ls6 hl6 => ?_)
    have h4 : ¬ y < 5 := by
      rcases hno with q | q | q | q
      · exact absurd q h1
      · exact absurd h2 q
      · exact absurd q h3
      · exact q
    exact jbr_sound hx hb (h_X1_has dX1_has_18) (t := 25) (st' := []) (by simp [jbr, show jtg 18 7 = some 25 from rfl, jcb_ge.mpr h4]) (W25 _ hl6)
  · exact jbr_sound hx hb (h_X1_has dX1_has_9) (t := 25) (st' := []) (by simp [jbr, show jtg 9 16 = some 25 from rfl, jcb_ge.mpr h2]) (W25 _ hl3)
/-- what the throw leaves -/
def jQt (D : va_G) (E : Nat → ClassId) (M : jM) : Array Value → State → Outcome → State → Prop := fun _ st o t => o = .threw M.1 ∧ (st.WarmedH t.vm ∧ st.sameButNew ({ t with vm := st.vm } : State) [] 1 6) ∧ jSim D E t.heap (M.1 + 1, M.2.1 + 6, M.2.2.1, M.2.2.2) ∧ (∀ q, q < st.heap.size → t.heap[q]? = st.heap[q]?) ∧ ∃ ce : Cell, t.heap[M.1]? = some ce ∧ st.vm.findClass nmX = some ce.cls ∧ st.vm.assignable ce.cls ce.cls = true ∧ ce.vm = .none
def jPt (sv : Nat → Value) (D : va_G) (E : Nat → ClassId) (M : jM) (As : List Value) : Array Value → State → Prop := fun a U => jP sv D E M As a U ∧ jXs (jA M) U
theorem jPt_blind {As : List Value} : FrameBlind (jPt sv D E M As) := by
  intro a U g mk h
  exact ⟨jP_blind a U g mk h.1, h.2.call (U := U.calling g mk a) (State.WarmedH.refl U) rfl va_S.rf (fun _ h => h)⟩
set_option maxHeartbeats 4000000 in
theorem at_throws (hfl : l.flags = flags0) {o : Nat} {x y : Int32} (hno : jno M o x y = true) : MetFree l (jy 20) (headSpec (jWs 20) (jRm 8 1 6)) (jPt sv D E M [.ref o, .int x, .int y]) (fun _ _ _ _ _ => True) (jQt D E M) := by
  refine MetFree.of_bodyS (code := jcode 20) (maxLocals := jmaxl 20) (ret := jret 20) (by decide) ?_ ?_
  · intro args s m h hn
    obtain ⟨meth, c, h1, h2, h3, h4, h5, h6, -, -⟩ := Cond.code_spec hn (atoms_spec (ws := jWs 20) h _ List.mem_cons_self)
    exact ⟨meth, c, h1, h2, h3, h4, h5, h6⟩
  intro p e s m args below meth c s₁ B hml hP _
  obtain ⟨⟨rfl, hS, hU⟩, hX⟩ := hP
  have hX0 := hX
  have hx := B.exec
  have hb := B.bytes
  have hown := findClass_of_methodNamed B.named
  have hlk := B.notSynchronized
  have hh0 : s₁.heap = s.heap := by rw [B.state]; rfl
  have hcw : (Cond.code (jy 20) (jcode 20) (jmaxl 20) (jret 20)).before [Value.ref o, Value.int x, Value.int y].toArray s = true := atoms_spec (ws := jWs 20) B.pre _ List.mem_cons_self
  have hnh := B.noHandlers hcw
  obtain ⟨n, pr, n', c0, q1, q2, q3, q4, q5⟩ := jno_inv hno
  obtain ⟨t, u, g, V⟩ := M
  have hsz : s.heap.size = t := hS.1
  suffices K : W p l e (headSpec (jWs 20) (jRm 8 1 6)).room s m [Value.ref o, Value.int x, Value.int y].toArray below meth c s.heap [] 0 0 (fun T => T.status = .running ∧ Ended T below (.threw t) ∧ jQt D E (t, u, g, V) [Value.ref o, Value.int x, Value.int y].toArray s (.threw t) T) (entryFrame m [Value.ref o, Value.int x, Value.int y].toArray (jmaxl 20)) by
    obtain ⟨T, a1, b1, b2, b3⟩ := K s₁ hh0 (Stand.of_body B)
    exact ⟨T, .threw t, a1, b1, b2, b3⟩
  rw [lg_entry_eq]
  have hl0 : jlv ((lg_sl [Value.ref o, Value.int x, Value.int y] ++ List.replicate (jmaxl 20 - (lg_sl [Value.ref o, Value.int x, Value.int y]).length) Slot.unset).toArray) (jmaxl 20) [some (.ref o), some (.int x), some (.int y)] := jlv_entry (vs := [.ref o, .int x, .int y]) (n := jmaxl 20) (Nat.le_refl 3)
  generalize (lg_sl [Value.ref o, Value.int x, Value.int y] ++ List.replicate (jmaxl 20 - (lg_sl [Value.ref o, Value.int x, Value.int y]).length) Slot.unset).toArray = ls0 at hl0 ⊢
  refine jpure_sound hx hb (h_X4_at dX4_at_0) rfl hl0 (fun ls1 hl1 => ?_)
  obtain ⟨C, T, N, hcl, hκ, hk, hL⟩ := jfl_ok (μ := 20) (idx := 33) (κ := 6) (k := 8) rfl
  refine jget_sound hx hb hU.1 hU.2.1 hown hcl hk hL hS q1 hκ (h_X4_at dX4_at_1) ?_
  have q2 : V 6 8 o = .ref pr := q2
  rw [q2]
  refine jpure_sound hx hb (h_X4_at dX4_at_4) rfl hl1 (fun ls2 hl2 => ?_)
  refine jpure_sound hx hb (h_X4_at dX4_at_5) rfl hl2 (fun ls3 hl3 => ?_)
  -- the call of has
  have hM := has_met (l := l) (sv := sv) (D := D) (E := E) (M := (t, u, g, V)) q3 q4 q5
  have hmt : jmt (jow 20) 173 = some (0, 7, 2, 3) := rfl
  obtain ⟨hlink, ⟨hcode, hini, hmh, har, hpl, hmx⟩, hm0, -, -⟩ := jmt_ok hmt
  obtain ⟨hinst, q, hq, hκ3, hsel⟩ := hm0 rfl
  obtain ⟨-, cell, z1, z2, z3, -⟩ := jcell_obj (hS.2 pr 3 n' q3) hκ3 hq
  have hW := hU.1
  have hp : PreV s s.heap q.1 pr (jP sv D E (t, u, g, V) [.ref pr, .int x, .int y]) [.int x, .int y] := ⟨jP_blind, ⟨cell, z1, by rw [z3]; rfl, by rw [z2]; exact (hU.2.1.1 3 _ hq).2.1⟩, fun U hH hWm => ⟨rfl, by rw [hH]; exact hS, jU_call hU hWm hH va_S.rf (fun _ h => h)⟩⟩
  have har2 : ∀ sig, parseMethodDescriptor (jy 7).desc = some sig → 2 = sig.parameters.length := by
    intro sig h
    rw [h] at har
    exact (Option.some.inj har).symm
  have S : CallFix p m c (jcode 20) (jmaxl 20) s [Value.ref o, Value.int x, Value.int y].toArray [] (jy 20).cls := ⟨hx, hb, hml, hown, fun w h => by cases h⟩
  have hrun : va_Run p l e (headSpec (jWs 20) (jRm 8 1 6)).room s m [Value.ref o, Value.int x, Value.int y].toArray below meth c s.heap [] 0 0 0 0 (F0 m 6 ls3 [.int y, .int x, .ref pr]) [] (jQh [Value.ref pr, Value.int x, Value.int y].toArray) (fun _ => False) := by
    rcases hlink with hlink | ⟨host, hlink⟩
    · exact va_runV (e := e) (below := below) (meth := meth) (locs := []) (g := F0 m 6 ls3 [.int y, .int x, .ref pr]) (As := [.int x, .int y]) (rest := []) S hM (cw := ⟨⟨rfl, rfl, by decide, by decide, jcode_w hW hcode, List.mem_cons_self, hW _ hcode _, hW _ hini _, hmh, har2, hW _ hlink _⟩, hW _ hinst _, hW _ hsel _⟩) hp rfl rfl hl3.2.1 rfl (by show 2 * 0 + 0 ≤ 8; omega) (h_X4_at dX4_at_6) ⟨by decide, by decide⟩
    · exact va_runVN (e := e) (below := below) (meth := meth) (locs := []) (g := F0 m 6 ls3 [.int y, .int x, .ref pr]) (As := [.int x, .int y]) (rest := []) S hM (cw := ⟨⟨⟨rfl, rfl, by decide, by decide, jcode_w hW hcode, List.mem_cons_self⟩, hW _ hcode _, hW _ hini _, hmh, har2, hW _ hlink _⟩, hW _ hinst _, hW _ hsel _⟩) hp rfl rfl hl3.2.1 rfl (by show 2 * 0 + 0 ≤ 8; omega) (h_X4_at dX4_at_6) ⟨by decide, by decide⟩
  have aft : W p l e (headSpec (jWs 20) (jRm 8 1 6)).room s m [Value.ref o, Value.int x, Value.int y].toArray below meth c s.heap [] 0 0 (fun T => T.status = .running ∧ Ended T below (.threw t) ∧ jQt D E (t, u, g, V) [Value.ref o, Value.int x, Value.int y].toArray s (.threw t) T) (F0 m 9 ls3 [.int 0]) := by
    refine jbr_sound hx hb (h_X4_at dX4_at_9) (t := 12) (st' := []) (by simp [jbr, show jtg 9 13 = some 22 from rfl, show jcb .ne (0 : Int32) 0 = false from rfl]) ?_
    obtain ⟨cX, kX, hcX, hkX, -, -, -, -⟩ := Cond.instantiable_spec (hW _ w_ins [Value.ref o, Value.int x, Value.int y].toArray)
    refine W.newcK hx hb hown (hW _ w_new176 _) (hW _ w_ins _) (hW _ w_ini _) (g := F0 m 12 ls3 []) rfl (h_X4_at dX4_at_12) (by decide) (by decide) hcX hsz fun H' kC k1 k2 k3 k4 => ?_
    refine jpure_sound (ls := ls3) (st := [.ref t]) hx hb (h_X4_at dX4_at_15) rfl hl3 (fun ls4 hl4 => ?_)
    obtain ⟨-, -, qs, hqs⟩ := hX
    refine va_ldcS (ls := ls4) (rest := [.ref t, .ref t]) hx hb hown hqs (h_X4_at dX4_at_16) ?_
    intro T0 hT0 X
    have htr := Launch.traces_off hfl X.admits
    obtain ⟨U, st, hrun, hend, hWm, hsame, ce, hce, hoc⟩ := X.ctorThrowS hx htr (own := "ReportWriter") (cls := nmX) (names := nmC) (ic := 180) hown (by decide) (by decide) (own_hold hW hX0 _) (fun z hz => absurd hz (List.not_mem_nil)) (a := t) hcX k1 (by rw [hT0]; exact k2) (by rw [hsz]; exact Nat.le_refl t) (msg := .ref qs) rfl (g := F0 m 18 ls4 [.ref qs, .ref t, .ref t]) rfl (by rw [hml]; exact hl4.2.1) rfl rfl (rest := []) rfl (by rw [hb]; exact h_X4_at dX4_at_18) (by rw [hb]; exact h_X4_at dX4_at_21) (fun z hz => by
      have : c.exceptionTable.toList = [] := by
        have := hnh
        simp at this
        rw [this]
      rw [this] at hz
      exact absurd hz (List.not_mem_nil)) (by decide) (by show 2 * 0 + 1 + (13 * (3 + 1) + 42) ≤ 320; omega) hlk
    refine ⟨U, st, hrun, hend, rfl, ⟨hWm, hsame⟩, ?_, ?_, ce, hce, hoc.cls, hoc.self, hoc.vm⟩
    · have hu : t < U.heap.size := (Array.getElem?_eq_some_iff.mp hce).1
      have hz : U.heap.size ≤ s.heap.size + (0 + 1) := hsame.2.2.1
      refine ⟨?_, fun b κ nn hb0 => ?_⟩
      · show U.heap.size = t + 1
        omega
      · have hj := hS.2 b κ nn hb0
        exact jcell_kept hj (sbn_eq hsame b (jcell_lt hj)) (fun _ => rfl)
    · exact fun q hq => sbn_eq hsame q hq
  intro T0 hT0 X
  obtain ⟨v, st₀, tt, T', L, h0, X', hL, e1, e2, ⟨hv, hs⟩, stp⟩ := hrun T0 hT0 X
  cases hv
  have hL0 : L = [] := by
    cases L with
    | nil => rfl
    | cons a b => exact absurd (hL a List.mem_cons_self) (fun h => h)
  subst hL0
  obtain ⟨t2, a1, b1⟩ := aft T' (by rw [e1, hs, h0]) X'
  exact ⟨t2, stp t2 a1, b1⟩
end JT
