-- ===== soundness of the law itself =====
def jSoL (sv : Nat → Value) (D : va_G) (E : Nat → ClassId) (l : Launch) (n : Nat) : Prop := ∀ (d : Nat) (F : jF) (M : jM) (r : Option Value) (M' : jM), jrun sv n d F M = some (r, M') → F.1 = 110 →
  ∀ (p : Program) (e : Env) (R : Room) (s : State) (m : MethodId) (args : Array Value) (below : List Frame) (meth : Method) (c : Code) (H : Heap) (locs : List Loc) (cells slots : Nat) (Q : State → Prop) (A : Nat → Prop) (ls : Array Slot),
  jCx sv D E A p s m meth c F.1 → jXs A s → jSim D E H M → va_S A s.heap H locs → (∀ q, jA M q → A q) → jlv ls (jmaxl F.1) F.2.2.1 → cells + (M'.1 - M.1) ≤ R.cells → slots + (M'.2.1 - M.2.1) ≤ R.slots → d ≤ R.frames → d * 40 ≤ R.locals →
  (∀ (H' : Heap) (locs' : List Loc) (pc' : Nat) (ls' : Array Slot), jSim D E H' M' → va_S A s.heap H' locs' → jend F.1 pc' r → W p l e R s m args below meth c H' locs' (cells + (M'.1 - M.1)) (slots + (M'.2.1 - M.2.1)) Q (F0 m pc' ls' r.toList)) →
  W p l e R s m args below meth c H locs cells slots Q (F0 m F.2.1 ls F.2.2.2)
theorem jsoundL (sv : Nat → Value) (D : va_G) (E : Nat → ClassId) (l : Launch) (hfl : l.flags = flags0) : ∀ n : Nat, jSoL sv D E l n := by
  intro n
  induction n with
  | zero => intro d F M r M' h; simp [jrun] at h
  | succ n ih =>
    intro d F M r M' h hμ p e R s m args below meth c H locs cells slots Q A ls hC hX hS hS0 hA hl hcells hslots hfr hlo hret
    obtain ⟨μ, pc, L, st⟩ := F
    dsimp only at hμ hC hl hret ⊢
    have hC0 := hC
    obtain ⟨hx, hb, hml, hown, hnm, hrt, hlk, hW, hK, hZ, hMi⟩ := hC
    rw [jrun] at h
    cases hs : jstep sv (μ, pc, L, st) M with
    | none => rw [hs] at h; cases h
    | some z =>
      rw [hs] at h
      unfold jstep at hs
      dsimp only at hs
      split at hs
      · rename_i i len hd
        rcases jex_inv hs with ⟨L', st', h1, rfl⟩ | ⟨t, st', h1, rfl⟩ | ⟨st', M1, h1, rfl⟩ | ⟨r1, h1, h2, rfl⟩ | ⟨st', M1, h2, h1, rfl⟩ | ⟨⟨Fe, Fr⟩, h2, h1, rfl⟩ | ⟨h2, h1⟩
        · dsimp only at h
          rw [if_pos (Nat.zero_le d)] at h
          exact jpure_sound hx hb hd h1 hl (fun ls' hl' => ih d _ M r M' h hμ p e R s m args below meth c H locs cells slots Q A ls' hC0 hX hS hS0 hA hl' hcells hslots hfr hlo hret)
        · dsimp only at h
          rw [if_pos (Nat.zero_le d)] at h
          exact jbr_sound hx hb hd h1 (ih d _ M r M' h hμ p e R s m args below meth c H locs cells slots Q A ls hC0 hX hS hS0 hA hl hcells hslots hfr hlo hret)
        · dsimp only at h
          rw [if_pos (Nat.zero_le d)] at h
          have g1 := jmem_le h1
          have g2 := jrun_le sv n d _ M1 r M' h
          have l1 := g1.1
          have l2 := g2.1
          have l3 := g1.2.1
          have l4 := g2.2.1
          have e1 : cells + (M1.1 - M.1) + (M'.1 - M1.1) = cells + (M'.1 - M.1) := by omega
          have e2 : slots + (M1.2.1 - M.2.1) + (M'.2.1 - M1.2.1) = slots + (M'.2.1 - M.2.1) := by omega
          exact jmem_sound hC0 hd h1 hS hS0 hA (by omega) (by omega) (fun H1 locs1 r1 r2 => ih d _ M1 r M' h hμ p e R s m args below meth c H1 locs1 _ _ Q A ls hC0 hX r1 r2 (fun q hq => hA q (jA_mono g1 hq)) hl (by rw [e1]; exact hcells) (by rw [e2]; exact hslots) hfr hlo (by rw [e1, e2]; exact hret))
        · cases h
          have e0 := jrt_st h1
          subst h2
          have := hret H locs pc ls hS hS0 ⟨i, st, hd, h1, e0⟩
          rw [← e0] at this
          simpa using this
        · dsimp only at h
          split at h
          · rename_i hd1
            have g1 := jnatv_le h1
            have g2 := jrun_le sv n d _ M1 r M' h
            subst h2
            have z1 : M1.1 = M.1 ∧ M1.2.1 = M.2.1 := jnatv_eq h1
            refine jnatv_sound hC0 hl.2.1 hd h1 hS hS0 hA (Nat.le_trans hd1 hfr) (by omega) (by omega) (by omega) (fun H1 locs1 r1 r2 => ih d _ M1 r M' h hμ p e R s m args below meth c H1 locs1 _ _ Q A ls hC0 hX r1 r2 (fun q hq => hA q (jA_mono g1 hq)) hl (by rw [z1.1]; exact hcells) (by rw [z1.2]; exact hslots) hfr hlo (by rw [z1.1, z1.2]; exact hret))
          · cases h
        · cases d with
          | zero => cases h
          | succ d0 =>
            dsimp only at h
            cases h3 : jrun sv n d0 Fe M with
            | none => rw [h3] at h; cases h
            | some y =>
              obtain ⟨r1, M1⟩ := y
              rw [h3] at h
              dsimp only at h
              have g1 := jrun_le sv n d0 Fe M r1 M1 h3
              have g2 := jrun_le sv n (d0 + 1) _ M1 r M' h
              have l1 := g1.1
              have l2 := g2.1
              have l3 := g1.2.1
              have l4 := g2.2.1
              have e1 : cells + (M1.1 - M.1) + (M'.1 - M1.1) = cells + (M'.1 - M.1) := by omega
              have e2 : slots + (M1.2.1 - M.2.1) + (M'.2.1 - M1.2.1) = slots + (M'.2.1 - M.2.1) := by omega
              subst h2
              obtain ⟨f1, f2⟩ := jcall_fr h1
              obtain ⟨μ2, pc2, L2, st2⟩ := Fr
              dsimp only at f1 f2 h
              subst f1 f2
              exact jcall_sound0 (jsound0 sv D E l n) hC0 hl hd h1 h3 hS hS0 hA (by omega) (by omega) hfr hlo (fun H1 locs1 q1 q2 => ih (d0 + 1) _ M1 r M' h hμ p e R s m args below meth c H1 locs1 _ _ Q A ls hC0 hX q1 q2 (fun q hq => hA q (jA_mono g1 hq)) hl (by rw [e1]; exact hcells) (by rw [e2]; exact hslots) hfr hlo (by rw [e1, e2]; exact hret))
        · obtain ⟨b, o, x, y, r0, rfl, rfl, rfl, hcat, ⟨hno, rfl⟩ | ⟨hno, rfl⟩⟩ := jlt_inv h1
          · dsimp only at h
            split at h
            · rename_i hd10
              have g2 := jrun_le sv n d _ _ r M' h
              have l2 := g2.1
              have l4 := g2.2.1
              dsimp only at l2 l4
              subst h2
              have hU : jU sv D E A s := ⟨hW, hK, hZ, hMi⟩
              have hp : PreS s H (jPt sv D E M [.ref o, .int x, .int y, .ref b]) [.ref o, .int x, .int y, .ref b] := ⟨jPt_blind, fun U hH hWm => ⟨⟨rfl, by rw [hH]; exact hS, jU_call hU hWm hH hS0 hA⟩, hX.call hWm hH hS0 hA⟩⟩
              have hrun := jrunL (e := e) (R := R) (args := args) (below := below) (meth := meth) (locs := locs) (cells := cells) (slots := slots) (rest := r0) (ls := ls) hd hx hb hml hown hW (lawAt_thrown (sv := sv) (D := D) (E := E) (b := b) hfl hno) hp rfl hl.2.1 hcat (Nat.le_trans hd10 hfr) (by omega) ⟨by omega, by omega⟩
              have e1 : cells + 1 + (M'.1 - (M.1 + 1)) = cells + (M'.1 - M.1) := by omega
              have e2 : slots + 6 + (M'.2.1 - (M.2.1 + 6)) = slots + (M'.2.1 - M.2.1) := by omega
              exact jafter hrun hS0 hA (fun H1 locs1 r1 r2 => ih d _ _ r M' h hμ p e R s m args below meth c H1 locs1 _ _ Q A ls hC0 hX r1 r2 (fun q hq => hA q (by
                rcases hq with ⟨κ, n, k1, k2⟩ | k1
                · exact Or.inl ⟨κ, n, k1, k2⟩
                · exact Or.inr (Nat.le_of_succ_le k1))) hl (by rw [e1]; exact hcells) (by rw [e2]; exact hslots) hfr hlo (by rw [e1, e2]; exact hret))
            · cases h
          · cases d with
            | zero => cases h
            | succ d0 =>
              dsimp only at h
              cases h3 : jrun sv n d0 (109, 0, [some (.ref o), some (.int x), some (.int y), some (.ref b), none], []) M with
              | none => rw [h3] at h; cases h
              | some q =>
                obtain ⟨r1, M1⟩ := q
                rw [h3] at h
                dsimp only at h
                have g1 := jrun_le sv n d0 _ M r1 M1 h3
                have g2 := jrun_le sv n (d0 + 1) _ M1 r M' h
                have l1 := g1.1
                have l2 := g2.1
                have l3 := g1.2.1
                have l4 := g2.2.1
                subst h2
                have hU : jU sv D E A s := ⟨hW, hK, hZ, hMi⟩
                have hp : PreS s H (jP sv D E M [.ref o, .int x, .int y, .ref b]) [.ref o, .int x, .int y, .ref b] := ⟨jP_blind, fun U hH hWm => ⟨rfl, by rw [hH]; exact hS, jU_call hU hWm hH hS0 hA⟩⟩
                have hM := lawAt_met (l := l) (sv := sv) (D := D) (E := E) (As := [.ref o, .int x, .int y, .ref b]) (M := M) (M1 := M1) (r := r1) (n := n) (d := d0) h3 (Nat.le_succ 4)
                have hrun := jrunL (e := e) (R := R) (args := args) (below := below) (meth := meth) (locs := locs) (cells := cells) (slots := slots) (rest := r0) (ls := ls) hd hx hb hml hown hW hM hp rfl hl.2.1 hcat hfr hlo ⟨by omega, by omega⟩
                have e1 : cells + (M1.1 - M.1) + (M'.1 - M1.1) = cells + (M'.1 - M.1) := by omega
                have e2 : slots + (M1.2.1 - M.2.1) + (M'.2.1 - M1.2.1) = slots + (M'.2.1 - M.2.1) := by omega
                exact jafter hrun hS0 hA (fun H1 locs1 q1 q2 => ih (d0 + 1) _ M1 r M' h hμ p e R s m args below meth c H1 locs1 _ _ Q A ls hC0 hX q1 q2 (fun q hq => hA q (jA_mono g1 hq)) hl (by rw [e1]; exact hcells) (by rw [e2]; exact hslots) hfr hlo (by rw [e1, e2]; exact hret))
      · cases hs
