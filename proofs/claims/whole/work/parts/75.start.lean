-- ===== where the law begins =====
theorem jtr_args {s : State} {w : Cond} {a0 : Array Value} (ht : jtr w = true) (h : w.before a0 s = true) (A : Array Value) : w.before A s = true := by
  unfold jtr at ht
  split at ht
  · exact h
  · exact h
  · exact h
  · exact h
  · exact word_at (State.WarmedH.refl s) (Or.inr ⟨_, rfl⟩) h
  · exact h
  · exact word_at (State.WarmedH.refl s) (Or.inl ht) h
theorem len0 {args : Array Value} {s : State} {tm : Term} {t : Addr} {cell : Cell} (ht : tm.eval args s none [] s = some (.ref t)) (hat : s.arrayAt? t = some cell) (hlen : (Term.length tm).eval args s none [] s = some (.int 0)) : cell.slots.size = 0 := by
  simp only [Term.eval, ht, hat, Option.bind_eq_bind, Option.bind_some] at hlen
  by_cases h : cell.slots.size < 2 ^ 31
  · rw [if_pos h] at hlen
    have h1 : nI cell.slots.size = nI 0 := by
      have := Option.some.inj hlen
      injection this
    exact (nI_eq h (by decide)).mp h1
  · rw [if_neg h] at hlen
    cases hlen
def tmE : Term := .static "java/util/ArrayList" "DEFAULTCAPACITY_EMPTY_ELEMENTDATA" "[Ljava/lang/Object;"
/-- the classes of arrays -/
def eCl (cI cL cZ cO cS : ClassId) : Nat → ClassId := fun κ => if κ = 94 then cS else match jkt κ with
  | some .int => cI
  | some .long => cL
  | some .boolean => cZ
  | _ => cO
set_option maxHeartbeats 4000000 in
theorem start_W {p : Program} {e : Env} {s : State} {m : MethodId} {below : List Frame} {meth : Method} {c : Code} (l : Launch) (hfl : l.flags = flags0) {b L : Nat} {xs : Nat → Int32} (hL : L ≤ 2051) (hx : p.tables.exec = Jvm.exec) (hb : c.code = code) (hr : meth.sig.returnType = ret) (hml : c.maxLocals = 7) (hown : s.vm.findClass "ReportWriterLaw" = some m.cls) (hts : ∀ w ∈ lw_tbl, w.before #[Value.ref b] s = true) (hXs : va_X b L xs s s.heap) (hbl : b < s.heap.size) (hlk : meth.locks = false) (hgv : (Jvm.Cond.and given_1 narrow_1).before #[Value.ref b] s = true) (hnm : meth.name = "law") {Q : State → Prop}
    (hret : ∀ (H : Heap) (pc : Nat) (ls : Array Slot), decode code pc = .ok (.ireturn, 1) → W p l e room_1 s m #[Value.ref b] below meth c H [] 601024 7293000 Q (F0 m pc ls [.int 1])) : W p l e room_1 s m #[Value.ref b] below meth c s.heap [] 0 0 Q (entryFrame m ([Value.ref b] : List Value).toArray 7) := by
  have hW : jW s := fun w hw A => jtr_args (jwords_tr w hw) (hts w (List.mem_filter.mp hw).1) A
  have hfb := flat_of_before _ hgv
  have hA : ∀ a : Nat, a < s.heap.size → ¬ (fun q : Nat => s.heap.size ≤ q) a := fun a h => Nat.not_le.mpr h
  -- the shared empty array
  obtain ⟨em, cO, ceE, kE, evE, fcE, hceE, hkE, hstE, hclE, -⟩ := Cond.exactly_spec (hfb (.exactly tmE "[Ljava/lang/Object;") (by decide +kernel))
  have hlenE := va_eqt (hfb (.eq (.length tmE) (.int 0)) (by decide +kernel))
  obtain ⟨em', ceE', evE', hatE, -⟩ := Term.length_spec hlenE
  cases evE.symm.trans evE'
  have hsz0 := len0 evE hatE hlenE
  obtain ⟨hcE2, hknE, -, -⟩ := State.arrayAt?_spec hatE
  cases hceE.symm.trans hcE2
  obtain ⟨hofE, -⟩ := Cond.arrayOf_spec (hfb (.arrayOf tmE (.object "java/lang/Object")) (by decide +kernel)) evE hceE
  -- the script
  obtain ⟨scr, x1, x2, x3, x4, x5⟩ := hXs
  have hbem : b ≠ em := fun q => by
    subst q
    cases x1.symm.trans hceE
    obtain ⟨-, k1, w1, w2, w3⟩ := x2
    obtain ⟨-, k2, v1, v2, v3⟩ := hofE
    cases w1.symm.trans v1
    rw [w3] at v3
    cases v3
  have hemt : em < s.heap.size := (Array.getElem?_eq_some_iff.mp hceE).1
  -- classes
  obtain ⟨c0, i0, k0⟩ := u_known (fun w hw => hW w hw #[]) jcl_in_0 (hW _ w_ins #[])
  obtain ⟨c1, i1, k1⟩ := u_known (fun w hw => hW w hw #[]) jcl_in_1 (n := 3) (hW _ (jmw 78 (by decide +kernel) (by decide +kernel)) #[])
  obtain ⟨c2, i2, k2⟩ := u_known (fun w hw => hW w hw #[]) jcl_in_2 (n := 10) (hW _ (jmw 209 (by decide +kernel) (by decide +kernel)) #[])
  obtain ⟨c3, i3, k3⟩ := u_known (fun w hw => hW w hw #[]) jcl_in_3 (n := 2) (hW _ (jmw 104 (by decide +kernel) (by decide +kernel)) #[])
  obtain ⟨c4, i4, k4⟩ := u_known (fun w hw => hW w hw #[]) jcl_in_4 (n := 1) (hW _ (jmw 427 (by decide +kernel) (by decide +kernel)) #[])
  obtain ⟨c5, i5, k5⟩ := u_known (fun w hw => hW w hw #[]) jcl_in_5 (n := 5) (hW _ (jmw 355 (by decide +kernel) (by decide +kernel)) #[])
  obtain ⟨c6, i6, k6⟩ := u_known (fun w hw => hW w hw #[]) jcl_in_6 (n := 16) (hW _ (jmw 70 (by decide +kernel) (by decide +kernel)) #[])
  obtain ⟨c7, i7, k7⟩ := u_known (fun w hw => hW w hw #[]) jcl_in_7 (n := 29) (hW _ (jmw 600 (by decide +kernel) (by decide +kernel)) #[])
  obtain ⟨cI, kI', mI', aI1, aI2, aI3⟩ := Cond.arrayClass_spec (hW (.arrayClass .int) (jmw 119 (by decide +kernel) (by decide +kernel)) #[])
  obtain ⟨cZ, kZ', mZ', aZ1, aZ2, aZ3⟩ := Cond.arrayClass_spec (hW (.arrayClass .boolean) (jmw 697 (by decide +kernel) (by decide +kernel)) #[])
  obtain ⟨cJ, kJ', mJ', aJ1, aJ2, aJ3⟩ := Cond.arrayClass_spec (hW (.arrayClass .long) (jmw 698 (by decide +kernel) (by decide +kernel)) #[])
  obtain ⟨mO, cO', kO', aO0, -, aO2, aO3, aO1⟩ := Cond.arrayOver_spec (hW (.arrayOver (.object "java/lang/Object")) (jmw 298 (by decide +kernel) (by decide +kernel)) #[])
  have eO : cO' = cO := Option.some.inj (aO1.symm.trans fcE)
  subst eO
  obtain ⟨mi, hmi⟩ := va_Mi.of (hfb (.isRef (.mirror "[Ljava/lang/Object;")) (by decide +kernel))
  obtain ⟨qs, cQ, ceQ, kQ, evQ, -⟩ := Cond.exactly_spec (hfb (.exactly (.string "ReportWriter" 178) "java/lang/String") (by decide +kernel))
  let sv : Nat → Value := fun k => if k = 0 then .ref em else .ref mi
  let D : va_G := (fun κ => match κ with | 0 => c0 | 1 => c1 | 2 => c2 | 3 => c3 | 4 => c4 | 5 => c5 | 6 => c6 | _ => c7, fun κ => match κ with | 0 => i0 | 1 => i1 | 2 => i2 | 3 => i3 | 4 => i4 | 5 => i5 | 6 => i6 | _ => i7)
  let E : Nat → ClassId := eCl cI cJ cZ cO' scr.cls
  have hK : jK D E s := by
    refine ⟨fun κ q hq => ?_, fun κ ty hk => ?_⟩
    · have hl : κ < 8 := (List.getElem?_eq_some_iff.mp hq).1
      match κ, hl, hq with
      | 0, _, h => cases h; exact k0
      | 1, _, h => cases h; exact k1
      | 2, _, h => cases h; exact k2
      | 3, _, h => cases h; exact k3
      | 4, _, h => cases h; exact k4
      | 5, _, h => cases h; exact k5
      | 6, _, h => cases h; exact k6
      | 7, _, h => cases h; exact k7
    · by_cases h94 : κ = 94
      · subst h94
        cases hk
        obtain ⟨-, kk, w1, cm, w2⟩ := x2
        exact ⟨⟨kk, cm, w1, w2, fun C hC => by cases hC⟩, fun q => absurd rfl q⟩
      · have hty : ty = .int ∨ ty = .boolean ∨ ty = .long ∨ ty = .object "java/lang/Object" := by
          have hm := jkt_mem hk
          have : ∀ z ∈ jktT, z.2 = .int ∨ z.2 = .boolean ∨ z.2 = .long ∨ z.2 = .object "java/lang/Object" := by decide +kernel
          exact this _ hm
        have hE : E κ = match (some ty : Option FieldType) with | some .int => cI | some .long => cJ | some .boolean => cZ | _ => cO' := by
          show eCl cI cJ cZ cO' scr.cls κ = _
          unfold eCl
          rw [if_neg h94, hk]
        rcases hty with rfl | rfl | rfl | rfl
        · rw [hE]
          exact ⟨⟨kI', mI', aI2, aI3, fun C hC => by cases hC⟩, fun _ => aI1⟩
        · rw [hE]
          exact ⟨⟨kZ', mZ', aZ2, aZ3, fun C hC => by cases hC⟩, fun _ => aZ1⟩
        · rw [hE]
          exact ⟨⟨kJ', mJ', aJ2, aJ3, fun C hC => by cases hC⟩, fun _ => aJ1⟩
        · rw [hE]
          exact ⟨⟨kO', mO, aO2, aO3, fun C hC => by cases hC; exact aO0⟩, fun _ => aO1⟩
  have hZ : jZs sv (fun q : Nat => s.heap.size ≤ q) s := fun k C n d hk => by
    match k, hk with
    | 0, hk =>
      cases hk
      exact va_Zof (args := #[Value.ref b]) (hts _ (List.mem_of_getElem? (i := 90) (by decide +kernel))) (hW _ (jmw 52 (by decide +kernel) (by decide +kernel)) _) evE hA
    | k + 1, hk => cases hk
  have hMi : jMs sv s := fun k C hk => by
    match k, hk with
    | 0, hk => cases hk
    | 1, hk => cases hk; exact ⟨mi, rfl, hmi⟩
    | k + 2, hk => cases hk
  have hCx : jCx sv D E (fun q : Nat => s.heap.size ≤ q) p s m meth c 110 := ⟨hx, hb, hml, hown, hnm, hr, hlk, hW, hK, hZ, hMi⟩
  have hX : jXs (fun q : Nat => s.heap.size ≤ q) s := ⟨jSx.of (hts _ (List.mem_of_getElem? (i := 552) (by decide +kernel))) (hfb (.isRef (.static "java/lang/Throwable" "UNASSIGNED_STACK" "[Ljava/lang/StackTraceElement;")) (by decide +kernel)) hA, jSx.of (hts _ (List.mem_of_getElem? (i := 554) (by decide +kernel))) (hfb (.isRef (.static "java/lang/Throwable" "SUPPRESSED_SENTINEL" "Ljava/util/List;")) (by decide +kernel)) hA, qs, vk_R.of (hts (.stringRef "ReportWriter" 178 "no such line or column") (List.mem_of_getElem? (i := 564) (by decide +kernel))) evQ⟩
  -- memory
  let g : jG := fun a => if a = b then some (94, L) else if a = em then some (95, 0) else none
  let I : tI := fun _ k _ => xs k
  let J : tJ := fun _ _ _ => 0
  let P : tP := fun _ _ _ => none
  have gb : g b = some (94, L) := if_pos rfl
  have ge : g em = some (95, 0) := by
    show (if em = b then _ else _) = _
    rw [if_neg (fun q => hbem q.symm), if_pos rfl]
  have hSim : jSim D E s.heap (tv s.heap.size 0 g I J P) := by
    refine ⟨rfl, fun a κ n ha => ?_⟩
    have ha : (if a = b then some (94, L) else if a = em then some (95, 0) else none) = some (κ, n) := ha
    by_cases h1 : a = b
    · rw [if_pos h1] at ha
      cases ha
      subst h1
      refine Or.inr ⟨by decide, ⟨.int, rfl⟩, ⟨scr, x1, rfl, x3, x2.1, x4, fun j hj => ?_⟩, fun q => absurd q (by decide)⟩
      rw [x5 j hj]
      rfl
    · rw [if_neg h1] at ha
      by_cases h2 : a = em
      · rw [if_pos h2] at ha
        cases ha
        subst h2
        exact Or.inr ⟨by decide, ⟨_, rfl⟩, ⟨ceE, hceE, hclE, hknE, hofE.1, hsz0, fun j hj => absurd hj (Nat.not_lt_zero j)⟩, fun q => absurd q (by decide)⟩
      · rw [if_neg h2] at ha
        cases ha
  have hev := law_run (sv := sv) (d := 2) (t := s.heap.size) (u := 0) (g := g) (I := I) (J := J) (P := P) (sc := b) (em := em) (mi := mi) (N := L) rfl rfl (by unfold jt; rw [gb]; rfl) (by unfold jn; rw [gb]; rfl) hL (by unfold jt; rw [ge]; rfl) (by unfold jn; rw [ge]; rfl) (fun a κ ha => by
    obtain ⟨⟨κ', n⟩, w1, -⟩ := Option.map_eq_some_iff.mp ha
    have := jcell_lt (hSim.2 a κ' n w1)
    exact this)
  obtain ⟨nn, r, M', hrun, hr1, hr2, hr3⟩ := hev
  subst hr1
  have hr2 : M'.1 ≤ s.heap.size + 8100 := hr2
  have hr3 : M'.2.1 ≤ 0 + 1201000 := hr3
  rw [lg_entry_eq]
  have hl0 : jlv ((lg_sl [Value.ref b] ++ List.replicate (7 - (lg_sl [Value.ref b]).length) Slot.unset).toArray) 7 [some (.ref b), none, none, none, none, none, none] := jlv_entry (vs := [.ref b]) (n := 7) (by show 1 ≤ 7; omega)
  refine jsoundL sv D E l hfl nn 16 (110, 0, [some (.ref b), none, none, none, none, none, none], []) _ _ M' hrun rfl p e room_1 s m #[Value.ref b] below meth c s.heap [] 0 0 Q (fun q : Nat => s.heap.size ≤ q) _ hCx hX hSim va_S.rf (fun q hq => ?_) hl0 ?_ ?_ (by decide) (by decide) (fun H' locs' pc' ls' w1 w2 he => ?_)
  · rcases hq with ⟨κ, n, v1, v2⟩ | v1
    · exfalso
      have v1 : (if q = b then some (94, L) else if q = em then some (95, 0) else none) = some (κ, n) := v1
      by_cases h1 : q = b
      · rw [if_pos h1] at v1
        cases v1
        omega
      · rw [if_neg h1] at v1
        by_cases h2 : q = em
        · rw [if_pos h2] at v1
          cases v1
          omega
        · rw [if_neg h2] at v1
          cases v1
    · exact v1
  · show 0 + (M'.1 - s.heap.size) ≤ 601024
    omega
  · show 0 + (M'.2.1 - 0) ≤ 7293000
    omega
  · obtain ⟨i, st, hd, hrt, hst⟩ := he
    have hst : st = [.int 1] := hst
    subst hst
    have hi : i = .ireturn := by
      unfold jrt at hrt
      split at hrt <;> first | rfl | (cases hrt; done) | (rename_i hq _; cases hq; done) | skip
    subst hi
    refine va_forget (fun q hq => w2.2.2 q hq) (W.widen (k := 601024) (n := 7293000) (by show 0 + (M'.1 - s.heap.size) ≤ 601024; omega) (by show 0 + (M'.2.1 - 0) ≤ 7293000; omega) ?_)
    exact hret H' pc' ls' hd
