-- ===== soundness, for every method but the law itself =====
theorem jmtT_lt : jmtT.all (fun x => decide (x.2.2.1 < 109)) = true := by decide +kernel
theorem jmt_lt {o i md μ' k κ : Nat} (h : jmt o i = some (md, μ', k, κ)) : μ' < 110 := by
  have := List.all_eq_true.mp jmtT_lt _ (jlk_mem h)
  have := of_decide_eq_true this
  dsimp only at this
  omega
def jSo0 (sv : Nat → Value) (D : va_G) (E : Nat → ClassId) (l : Launch) (n : Nat) : Prop := ∀ (d : Nat) (F : jF) (M : jM) (r : Option Value) (M' : jM), jrun sv n d F M = some (r, M') → F.1 < 110 →
  ∀ (p : Program) (e : Env) (R : Room) (s : State) (m : MethodId) (args : Array Value) (below : List Frame) (meth : Method) (c : Code) (H : Heap) (locs : List Loc) (cells slots : Nat) (Q : State → Prop) (A : Nat → Prop) (ls : Array Slot),
  jCx sv D E A p s m meth c F.1 → jSim D E H M → va_S A s.heap H locs → (∀ q, jA M q → A q) → jlv ls (jmaxl F.1) F.2.2.1 → cells + (M'.1 - M.1) ≤ R.cells → slots + (M'.2.1 - M.2.1) ≤ R.slots → d ≤ R.frames → d * 40 ≤ R.locals →
  (∀ (H' : Heap) (locs' : List Loc) (pc' : Nat) (ls' : Array Slot), jSim D E H' M' → va_S A s.heap H' locs' → jend F.1 pc' r → W p l e R s m args below meth c H' locs' (cells + (M'.1 - M.1)) (slots + (M'.2.1 - M.2.1)) Q (F0 m pc' ls' r.toList)) →
  W p l e R s m args below meth c H locs cells slots Q (F0 m F.2.1 ls F.2.2.2)
theorem jmet0 {sv : Nat → Value} {D : va_G} {E : Nat → ClassId} {l : Launch} {n d μ : Nat} (ih : jSo0 sv D E l n) {As : List Value} {M M1 : jM} {r : Option Value} (hμ : μ < 110) (hr : jrun sv n d (μ, 0, jent (jmaxl μ) As, []) M = some (r, M1)) (hlen : (jarg As).length ≤ jmaxl μ) (hpl : plainName (jy μ).cls = true) :
    Met l (jy μ) (jWs μ) (jRm d (M1.1 - M.1) (M1.2.1 - M.2.1)) (jP sv D E M As) (jQ D E M M1 r) (M1.1 - M.1) (M1.2.1 - M.2.1) (jA M) := by
  refine Met.ofW (cc := jcode μ) (maxL := jmaxl μ) (ret := jret μ) hpl rfl ?_
  intro p e s m args below meth c s₁ B hml hP
  obtain ⟨rfl, hS, hU⟩ := hP
  have hCx : jCx sv D E (jA M) p s m meth c μ := ⟨B.exec, B.bytes, hml, findClass_of_methodNamed B.named, (name_of_methodNamed B.named B.method).1, B.returns, B.notSynchronized, hU⟩
  rw [lg_entry_eq]
  refine ih d _ M r M1 hr hμ p e _ s m As.toArray below meth c s.heap [] 0 0 _ (jA M) _ hCx hS va_S.rf (fun _ h => h) (jlv_entry hlen) ?_ ?_ ?_ ?_ (fun H' locs' pc' ls' r1 r2 he => ?_)
  · show 0 + (M1.1 - M.1) ≤ M1.1 - M.1
    omega
  · show 0 + (M1.2.1 - M.2.1) ≤ M1.2.1 - M.2.1
    omega
  · exact Nat.le_refl d
  · exact Nat.le_refl (d * 40)
  · rw [Nat.zero_add, Nat.zero_add]
    exact jend_sound hCx he r1 r2
section JC
variable {p : Program} {l : Launch} {e : Env} {R : Room} {s : State} {m : MethodId} {args : Array Value} {below : List Frame} {meth : Method} {c : Code} {H : Heap} {locs : List Loc} {cells slots : Nat} {Q : State → Prop}
variable {pc μ : Nat} {ls : Array Slot} {st : List Value} {D : va_G} {E : Nat → ClassId} {A : Nat → Prop} {sv : Nat → Value} {M : jM}
theorem jcat_room0 {rest : List Value} (h : jcat rest ≤ 8) : 2 * (F0 m pc ls st).monitorRoom + (rest.map fun v => v.category).sum ≤ 8 := by
  show 2 * 0 + jcat rest ≤ 8
  omega
theorem jcode_w0 (hW : jW s) {μ' : Nat} (hcode : Cond.code (jy μ') (jcode μ') (jmaxl μ') (jret μ') ∈ jwords) : ∀ w ∈ jWs μ', ∀ (a' : Array Value) (U : State), s.WarmedH U.vm → w.before a' U = true := by
  intro w hw a' U hWm
  have e : w = Cond.code (jy μ') (jcode μ') (jmaxl μ') (jret μ') := by simpa [jWs] using hw
  subst e
  exact jW_warm hWm hW _ hcode a'
set_option maxHeartbeats 4000000 in
theorem jcall_sound0 {n d : Nat} (ih : jSo0 sv D E l n) (hC : jCx sv D E A p s m meth c μ) {L : jL} (hl : jlv ls (jmaxl μ) L) {i : ClassFile.Instr} (hd : decode (jcode μ) pc = .ok (i, 3)) {Fe Fr : jF} (h : jcall μ pc L i st M = some (Fe, Fr)) {M1 : jM} {r : Option Value} (hr : jrun sv n d Fe M = some (r, M1)) (hS : jSim D E H M) (hS0 : va_S A s.heap H locs) (hA : ∀ q, jA M q → A q)
    (hcells : cells + (M1.1 - M.1) ≤ R.cells) (hslots : slots + (M1.2.1 - M.2.1) ≤ R.slots) (hfr : d + 1 ≤ R.frames) (hlo : (d + 1) * 40 ≤ R.locals)
    (kk : ∀ (H1 : Heap) (locs1 : List Loc), jSim D E H1 M1 → va_S A s.heap H1 locs1 → W p l e R s m args below meth c H1 locs1 (cells + (M1.1 - M.1)) (slots + (M1.2.1 - M.2.1)) Q (F0 m Fr.2.1 ls (r.toList ++ Fr.2.2.2))) : W p l e R s m args below meth c H locs cells slots Q (F0 m pc ls st) := by
  have hC0 := hC
  obtain ⟨hx, hb, hml, hown, hnm, hret, hlk, hW, hK, hZ, hMi⟩ := hC
  have hU : jU sv D E A s := ⟨hW, hK, hZ, hMi⟩
  have S : CallFix p m c (jcode μ) (jmaxl μ) s args [] (jy μ).cls := ⟨hx, hb, hml, hown, fun w h => by cases h⟩
  have hsize : ls.size = jmaxl μ := hl.2.1
  unfold jcall at h
  split at h
  · -- virtual
    rename_i idx
    split at h
    · rename_i md μ' k κ hmt
      split at h
      case isFalse => cases h
      rename_i hmd
      subst hmd
      split at h
      · rename_i b rest hdrop
        split at h
        · rename_i hc
          obtain ⟨hg, hcat, hk, hlen⟩ := hc
          cases h
          obtain ⟨hlink, ⟨hcode, hini, hmh, har, hpl, hmx⟩, hm0, -, -⟩ := jmt_ok hmt
          obtain ⟨hinst, q, hq, hκ, hsel⟩ := hm0 rfl
          have hstk : st = ((st.take k).reverse).reverse ++ .ref b :: rest := by
            rw [List.reverse_reverse, ← hdrop, List.take_append_drop]
          have hM := jmet0 ih (jmt_lt hmt) hr hlen hpl
          obtain ⟨t, u, g, V⟩ := M
          obtain ⟨x, hgx, hx1⟩ := Option.map_eq_some_iff.mp hg
          obtain ⟨κ', n'⟩ := x
          dsimp only at hx1
          subst hx1
          obtain ⟨-, cell, q1, q2, q3, -⟩ := jcell_obj (hS.2 b κ' n' hgx) hκ hq
          have hp : PreV s H q.1 b (jP sv D E (t, u, g, V) (.ref b :: (st.take k).reverse)) (st.take k).reverse := ⟨jP_blind, ⟨cell, q1, by rw [q3]; rfl, by rw [q2]; exact (hK.1 κ' _ hq).2.1⟩, fun U hH hWm => ⟨rfl, by rw [hH]; exact hS, jU_call hU hWm hH hS0 hA⟩⟩
          have har2 : ∀ sig, parseMethodDescriptor (jy μ').desc = some sig → k = sig.parameters.length := by
            intro sig h
            rw [h] at har
            exact (Option.some.inj har).symm
          have hn : ((st.take k).reverse).length = k := by rw [List.length_reverse, List.length_take]; omega
          rcases hlink with hlink | ⟨host, hlink⟩
          · have hrun := va_runV (e := e) (below := below) (meth := meth) (locs := locs) (g := F0 m pc ls st) S hM (cw := ⟨⟨rfl, rfl, hfr, by show 8 + (jmaxl μ' + 11) + d * 40 ≤ _; omega, jcode_w0 hW hcode, List.mem_cons_self, hW _ hcode args, hW _ hini args, hmh, har2, hW _ hlink args⟩, hW _ hinst args, hW _ hsel args⟩) hp rfl hn hsize hstk (jcat_room0 hcat) hd ⟨hcells, hslots⟩
            exact jafter hrun hS0 hA kk
          · have hrun := va_runVN (e := e) (below := below) (meth := meth) (locs := locs) (g := F0 m pc ls st) S hM (cw := ⟨⟨⟨rfl, rfl, hfr, by show 8 + (jmaxl μ' + 11) + d * 40 ≤ _; omega, jcode_w0 hW hcode, List.mem_cons_self⟩, hW _ hcode args, hW _ hini args, hmh, har2, hW _ hlink args⟩, hW _ hinst args, hW _ hsel args⟩) hp rfl hn hsize hstk (jcat_room0 hcat) hd ⟨hcells, hslots⟩
            exact jafter hrun hS0 hA kk
        · cases h
      · cases h
    · cases h
  · -- special
    rename_i idx
    split at h
    · rename_i md μ' k κ hmt
      split at h
      case isFalse => cases h
      rename_i hmd
      subst hmd
      split at h
      · rename_i b rest hdrop
        split at h
        · rename_i hc
          obtain ⟨hcat, hk, hlen⟩ := hc
          cases h
          obtain ⟨hlink, ⟨hcode, hini, hmh, har, hpl, hmx⟩, -, hm1, -⟩ := jmt_ok hmt
          obtain ⟨hinn, hinst, hnone⟩ := hm1 rfl
          have hstk : st = ((st.take k).reverse).reverse ++ .ref b :: rest := by
            rw [List.reverse_reverse, ← hdrop, List.take_append_drop]
          have hM := jmet0 ih (jmt_lt hmt) hr hlen hpl
          have hp : PreS s H (jP sv D E M (.ref b :: (st.take k).reverse)) (.ref b :: (st.take k).reverse) := ⟨jP_blind, fun U hH hWm => ⟨rfl, by rw [hH]; exact hS, jU_call hU hWm hH hS0 hA⟩⟩
          have har2 : ∀ sig, parseMethodDescriptor (jy μ').desc = some sig → k = sig.parameters.length := by
            intro sig h
            rw [h] at har
            exact (Option.some.inj har).symm
          have hn : ((st.take k).reverse).length = k := by rw [List.length_reverse, List.length_take]; omega
          have hcode2 : Cond.code (jy μ') (jcode μ') (jmaxl μ') none ∈ jWs μ' := by rw [← hnone]; exact List.mem_cons_self
          have hcode3 : (Cond.code (jy μ') (jcode μ') (jmaxl μ') none).before args s = true := by rw [← hnone]; exact hW _ hcode args
          rcases hlink with hlink | ⟨host, hlink⟩
          · have hrun := va_runI (e := e) (below := below) (meth := meth) (locs := locs) (g := F0 m pc ls st) S hM (cw := ⟨⟨rfl, rfl, hfr, by show 8 + (jmaxl μ' + 11) + d * 40 ≤ _; omega, jcode_w0 hW hcode, hcode2, hcode3, hW _ hini args, hmh, har2, hW _ hlink args⟩, hinn, hW _ hinst args⟩) hp rfl hn hsize hstk (jcat_room0 hcat) hd ⟨hcells, hslots⟩
            exact jafter hrun hS0 hA kk
          · have hrun := va_runIN (e := e) (below := below) (meth := meth) (locs := locs) (g := F0 m pc ls st) S hM (cw := ⟨⟨⟨rfl, rfl, hfr, by show 8 + (jmaxl μ' + 11) + d * 40 ≤ _; omega, jcode_w0 hW hcode, hcode2⟩, hcode3, hW _ hini args, hmh, har2, hW _ hlink args⟩, hinn, hW _ hinst args⟩) hp rfl hn hsize hstk (jcat_room0 hcat) hd ⟨hcells, hslots⟩
            exact jafter hrun hS0 hA kk
        · cases h
      · cases h
    · cases h
  · -- static
    rename_i idx
    split at h
    · rename_i md μ' k κ hmt
      split at h
      case isFalse => cases h
      rename_i hmd
      subst hmd
      split at h
      · rename_i hc
        obtain ⟨hcat, hk, hlen⟩ := hc
        cases h
        obtain ⟨hlink, ⟨hcode, hini, hmh, har, hpl, hmx⟩, -, -, hm2⟩ := jmt_ok hmt
        have hst := hm2 rfl
        have hstk : st = ((st.take k).reverse).reverse ++ st.drop k := by
          rw [List.reverse_reverse, List.take_append_drop]
        have hM := jmet0 ih (jmt_lt hmt) hr hlen hpl
        have hp : PreS s H (jP sv D E M (st.take k).reverse) (st.take k).reverse := ⟨jP_blind, fun U hH hWm => ⟨rfl, by rw [hH]; exact hS, jU_call hU hWm hH hS0 hA⟩⟩
        have har2 : ∀ sig, parseMethodDescriptor (jy μ').desc = some sig → k = sig.parameters.length := by
          intro sig h
          rw [h] at har
          exact (Option.some.inj har).symm
        have hn : ((st.take k).reverse).length = k := by rw [List.length_reverse, List.length_take]; omega
        rcases hlink with hlink | ⟨host, hlink⟩
        · have hrun := va_runS (e := e) (below := below) (meth := meth) (locs := locs) (g := F0 m pc ls st) S hM (cw := ⟨⟨rfl, rfl, hfr, by show 8 + (jmaxl μ' + 11) + d * 40 ≤ _; omega, jcode_w0 hW hcode, List.mem_cons_self, hW _ hcode args, hW _ hini args, hmh, har2, hW _ hlink args⟩, hW _ hst args⟩) hp rfl hn hsize hstk (jcat_room0 hcat) hd ⟨hcells, hslots⟩
          exact jafter hrun hS0 hA kk
        · have hrun := va_runSN (e := e) (below := below) (meth := meth) (locs := locs) (g := F0 m pc ls st) S hM (cw := ⟨⟨⟨rfl, rfl, hfr, by show 8 + (jmaxl μ' + 11) + d * 40 ≤ _; omega, jcode_w0 hW hcode, List.mem_cons_self⟩, hW _ hcode args, hW _ hini args, hmh, har2, hW _ hlink args⟩, hW _ hst args, trivial⟩) hp rfl hn hsize hstk (jcat_room0 hcat) hd ⟨hcells, hslots⟩
          exact jafter hrun hS0 hA kk
      · cases h
    · cases h
  · cases h
end JC
theorem jsound0 (sv : Nat → Value) (D : va_G) (E : Nat → ClassId) (l : Launch) : ∀ n : Nat, jSo0 sv D E l n := by
  intro n
  induction n with
  | zero => intro d F M r M' h; simp [jrun] at h
  | succ n ih =>
    intro d F M r M' h hμ p e R s m args below meth c H locs cells slots Q A ls hC hS hS0 hA hl hcells hslots hfr hlo hret
    obtain ⟨μ, pc, L, st⟩ := F
    dsimp only at hμ hC hl hret ⊢
    have hC0 := hC
    obtain ⟨hx, hb, hml, hown, hnm, hrt, hlk, hW, hK, hZ, hMi⟩ := hC
    rw [jrun] at h
    cases hs : jstep sv (μ, pc, L, st) M with
    | none => rw [hs] at h; cases h
    | some z =>
      rw [hs] at h
      unfold jstep at hs
      dsimp only at hs
      split at hs
      · rename_i i len hd
        rcases jex_inv hs with ⟨L', st', h1, rfl⟩ | ⟨t, st', h1, rfl⟩ | ⟨st', M1, h1, rfl⟩ | ⟨r1, h1, h2, rfl⟩ | ⟨st', M1, h2, h1, rfl⟩ | ⟨⟨Fe, Fr⟩, h2, h1, rfl⟩ | ⟨h2, h1⟩
        · dsimp only at h
          rw [if_pos (Nat.zero_le d)] at h
          exact jpure_sound hx hb hd h1 hl (fun ls' hl' => ih d _ M r M' h hμ p e R s m args below meth c H locs cells slots Q A ls' hC0 hS hS0 hA hl' hcells hslots hfr hlo hret)
        · dsimp only at h
          rw [if_pos (Nat.zero_le d)] at h
          exact jbr_sound hx hb hd h1 (ih d _ M r M' h hμ p e R s m args below meth c H locs cells slots Q A ls hC0 hS hS0 hA hl hcells hslots hfr hlo hret)
        · dsimp only at h
          rw [if_pos (Nat.zero_le d)] at h
          have g1 := jmem_le h1
          have g2 := jrun_le sv n d _ M1 r M' h
          have l1 := g1.1
          have l2 := g2.1
          have l3 := g1.2.1
          have l4 := g2.2.1
          have e1 : cells + (M1.1 - M.1) + (M'.1 - M1.1) = cells + (M'.1 - M.1) := by omega
          have e2 : slots + (M1.2.1 - M.2.1) + (M'.2.1 - M1.2.1) = slots + (M'.2.1 - M.2.1) := by omega
          exact jmem_sound hC0 hd h1 hS hS0 hA (by omega) (by omega) (fun H1 locs1 r1 r2 => ih d _ M1 r M' h hμ p e R s m args below meth c H1 locs1 _ _ Q A ls hC0 r1 r2 (fun q hq => hA q (jA_mono g1 hq)) hl (by rw [e1]; exact hcells) (by rw [e2]; exact hslots) hfr hlo (by rw [e1, e2]; exact hret))
        · cases h
          have e0 := jrt_st h1
          subst h2
          have := hret H locs pc ls hS hS0 ⟨i, st, hd, h1, e0⟩
          rw [← e0] at this
          simpa using this
        · dsimp only at h
          split at h
          · rename_i hd1
            have g1 := jnatv_le h1
            have g2 := jrun_le sv n d _ M1 r M' h
            subst h2
            have z1 : M1.1 = M.1 ∧ M1.2.1 = M.2.1 := jnatv_eq h1
            refine jnatv_sound hC0 hl.2.1 hd h1 hS hS0 hA (Nat.le_trans hd1 hfr) (by omega) (by omega) (by omega) (fun H1 locs1 r1 r2 => ih d _ M1 r M' h hμ p e R s m args below meth c H1 locs1 _ _ Q A ls hC0 r1 r2 (fun q hq => hA q (jA_mono g1 hq)) hl (by rw [z1.1]; exact hcells) (by rw [z1.2]; exact hslots) hfr hlo (by rw [z1.1, z1.2]; exact hret))
          · cases h
        · cases d with
          | zero => cases h
          | succ d0 =>
            dsimp only at h
            cases h3 : jrun sv n d0 Fe M with
            | none => rw [h3] at h; cases h
            | some y =>
              obtain ⟨r1, M1⟩ := y
              rw [h3] at h
              dsimp only at h
              have g1 := jrun_le sv n d0 Fe M r1 M1 h3
              have g2 := jrun_le sv n (d0 + 1) _ M1 r M' h
              have l1 := g1.1
              have l2 := g2.1
              have l3 := g1.2.1
              have l4 := g2.2.1
              have e1 : cells + (M1.1 - M.1) + (M'.1 - M1.1) = cells + (M'.1 - M.1) := by omega
              have e2 : slots + (M1.2.1 - M.2.1) + (M'.2.1 - M1.2.1) = slots + (M'.2.1 - M.2.1) := by omega
              subst h2
              obtain ⟨f1, f2⟩ := jcall_fr h1
              obtain ⟨μ2, pc2, L2, st2⟩ := Fr
              dsimp only at f1 f2 h
              subst f1 f2
              exact jcall_sound0 ih hC0 hl hd h1 h3 hS hS0 hA (by omega) (by omega) hfr hlo (fun H1 locs1 q1 q2 => ih (d0 + 1) _ M1 r M' h hμ p e R s m args below meth c H1 locs1 _ _ Q A ls hC0 q1 q2 (fun q hq => hA q (jA_mono g1 hq)) hl (by rw [e1]; exact hcells) (by rw [e2]; exact hslots) hfr hlo (by rw [e1, e2]; exact hret))
        · obtain ⟨b, o, x, y, r0, -, -, h110, -⟩ := jlt_inv h1
          omega
      · cases hs
