-- ===== printInBody =====
section
variable {sv : Nat → Value} {d t u : Nat} {Q : Option Value → jM → Prop} {g : jG} {I I' : tI} {J : tJ} {P : tP} {A B : Nat → Nat → Int32} {T : Nat → Int64} {ω : Wd} {tb ub st : Nat} {x y z : Int32}
theorem c_inBody (hR : Rel sv ω t g I J P A T tb ub) (hp : WfP A) (hB : Bd ω I A st) (hs : st + 1 < 1000000) {gi : Nat} (hgi : gi ≤ ngA A) (hin : ¬ gi = 0 → inb A gi) (h3 : ¬ gi = 0 → A 66 gi = 3 → RI ω I A) (hb : ln A + 30 ≤ 100000) {X : Int64}
    (K : ∀ (t' u' : Nat) (g' : jG) (I' : tI) (J' : tJ) (P' : tP) (tb' ub' st' : Nat), Rel sv ω t' g' I' J' P' (inBodyA A gi X.toInt32) T tb' ub' → Nx t u g I J P tb ub t' u' g' I' J' P' tb' ub' → Bd ω I' (inBodyA A gi X.toInt32) st' → st' ≤ st + 1 → (RI ω I A → RI ω I' (inBodyA A gi X.toInt32)) → Q none (tv t' u' g' I' J' P')) :
    Ev sv (d + 11) (39, 0, [some (.ref (ω.1 0)), some (va_rf (gR ω gi)), some (.long X), none, none, none], []) (tv t u g I J P) Q := by
  obtain ⟨h12, ⟨b, h26, hb2⟩, hT⟩ := hB
  by_cases h0 : gi = 0
  · subst h0
    have e : gR ω 0 = none := rfl
    rw [e]
    simp only [s_X4_printInBody_0, s_X4_printInBody_0n, s_X4_printInBody_0z, s_X4_printInBody_1n, s_X4_printInBody_1, s_X4_printInBody_1z, s_X4_printInBody_4, s_X4_printInBody_4n, s_X4_printInBody_4z, s_X4_printInBody_5, s_X4_printInBody_8, s_X4_printInBody_11, s_X4_printInBody_12, s_X4_printInBody_12n, s_X4_printInBody_12z, s_X4_printInBody_13, s_X4_printInBody_13n, s_X4_printInBody_13z, s_X4_printInBody_14, s_X4_printInBody_17, s_X4_printInBody_19, s_X4_printInBody_21, s_X4_printInBody_21n, s_X4_printInBody_21z, s_X4_printInBody_22, s_X4_printInBody_25, s_X4_printInBody_28, s_X4_printInBody_30, s_X4_printInBody_30n, s_X4_printInBody_30z, s_X4_printInBody_31, s_X4_printInBody_34, s_X4_printInBody_35, s_X4_printInBody_35n, s_X4_printInBody_35z, s_X4_printInBody_36, s_X4_printInBody_39, s_X4_printInBody_42, s_X4_printInBody_42n, s_X4_printInBody_42z, s_X4_printInBody_43, s_X4_printInBody_46, s_X4_printInBody_46n, s_X4_printInBody_46z, s_X4_printInBody_47, s_X4_printInBody_50, s_X4_printInBody_50n, s_X4_printInBody_50z, s_X4_printInBody_51, s_X4_printInBody_51n, s_X4_printInBody_51z, s_X4_printInBody_52, s_X4_printInBody_55, s_X4_printInBody_57, s_X4_printInBody_57n, s_X4_printInBody_57z, s_X4_printInBody_58, s_X4_printInBody_61, s_X4_printInBody_64, s_X4_printInBody_64n, s_X4_printInBody_64z, s_X4_printInBody_65, s_X4_printInBody_68, s_X4_printInBody_68n, s_X4_printInBody_68z, s_X4_printInBody_69, s_X4_printInBody_72, s_X4_printInBody_75, s_X4_printInBody_76, s_X4_printInBody_79, s_X4_printInBody_80, s_X4_printInBody_82, s_X4_printInBody_82n, s_X4_printInBody_82z, s_X4_printInBody_83, s_X4_printInBody_85, s_X4_printInBody_85n, s_X4_printInBody_85z, s_X4_printInBody_86, s_X4_printInBody_88, s_X4_printInBody_91, s_X4_printInBody_92, s_X4_printInBody_95, s_X4_printInBody_96, s_X4_printInBody_99, s_X4_printInBody_99n, s_X4_printInBody_99z, s_X4_printInBody_100, s_X4_printInBody_100n, s_X4_printInBody_100z, s_X4_printInBody_101, s_X4_printInBody_104, s_X4_printInBody_107, s_X4_printInBody_107n, s_X4_printInBody_107z, s_X4_printInBody_108, s_X4_printInBody_108n, s_X4_printInBody_108z, s_X4_printInBody_109, s_X4_printInBody_112, s_X4_printInBody_115, tl_some, tl_none, cv_int, cv_ref, cv_null, cv_long, cat_rf, jcv_nil, jcat_cons, jv_none, jv_int, jv_ref, jv_null, jw_rf, rf_some, rf_none, bz_0, bz_1, i1_0, i0_0, if_true, if_false, ite_self, List.nil_append, List.cons_append, Nat.reduceAdd, Nat.reduceLeDiff, Nat.zero_le, Nat.le_refl, and_self, and_true, true_and, not_true_eq_false, not_false_eq_true, reduceIte]
    exact K t u g I J P tb ub st hR (Nx_I (fun _ _ => rfl)) ⟨h12, ⟨b, h26, hb2⟩, hT⟩ (by omega) (fun h => h)
  · obtain ⟨i, rfl⟩ : ∃ i, gi = i + 1 := ⟨gi - 1, by omega⟩
    have e : gR ω (i + 1) = some (ω.2.1 i) := rfl
    rw [e]
    have hgi1 : i < ngA A := by omega
    have hin := hin h0
    have h3 := h3 h0
    have hG := hR.2.2.1.2.1 i hgi1
    have g1 := hG.1
    have hw := hR.2.2.2.2.2.2.2.1
    have hR1 := hR.on (i := i) hgi1
    have c1 := hR.1.1
    have hl := hR.2.2.2.2.2.2.2.2.1
    have hfr := onA_fr A (i + 1)
    have et : ∀ v, inBodyA A (i + 1) v = if isOA A (i + 1) then bodyA (tellA (roomA (onA A (i + 1)) (i + 1)) (i + 1) v) else onA A (i + 1) := by
      intro v
      unfold inBodyA turnA
      rw [if_neg h0]
    rw [et] at K
    have hN1 : Nx t u g I J P tb ub t u g (ups I 2 7 (ω.2.1 i) 0) J P tb ub := Nx_I (fun κ hκ => ups_o (by omega))
    have n9 : ∀ b, ups I 2 7 (ω.2.1 i) 0 2 9 b = I 2 9 b := fun b => by rw [ups_ap, if_neg (fun q => absurd q.2.1 (by decide))]
    have hT1 : RT ω (ups I 2 7 (ω.2.1 i) 0) (onA A (i + 1)) st := hT.kp rfl n9 rfl
    have hRI1 : RI ω I A → RI ω (ups I 2 7 (ω.2.1 i) 0) (onA A (i + 1)) := fun h j hj h66 => by
      rw [n9]
      exact h j hj h66
    by_cases h1 : isOA A (i + 1)
    · rw [if_pos h1] at K
      have hm := isOA_mn hw h1
      have hm1 : 0 < mnA (onA A (i + 1)) (i + 1) := hm
      have hp1 := hfr.wp hp
      have hw1 := hfr.wf hw
      have h26' : onA A (i + 1) 7 26 = nI b := h26
      have h12' : ups I 2 7 (ω.2.1 i) 0 6 12 (ω.1 0) = onA A (i + 1) 7 26 := h12
      have h12n : ups I 2 7 (ω.2.1 i) 0 6 12 (ω.1 0) = nI b := h12.trans h26
      have hG1 := hR1.2.2.1.2.1 i hgi1
      have c7 : ups I 2 7 (ω.2.1 i) 0 6 2 (ω.1 0) = A 7 3 := hR.1.2.2.2.2.2.2.1
      obtain ⟨tp, s, t1, t2, t3, t4, t5, t6⟩ := last_nI hw1 hp1 (gi := i + 1) (by omega) (by show i + 1 ≤ ngA A; omega) hm1 h26' hb2
      obtain ⟨p0, f0, e0, -, -, -, -, -, he, he2⟩ := hp.1
      have hgh := fun (Q : Option Value → jM → Prop) => hG1.height (sv := sv) (d := d + 10) (t := t) (u := u) (Q := Q) (J := J) (hw1.2.2.2.1 (i + 1)).1 (hw1.2.2.2.1 (i + 1)).2
      have hsib := fun (Q : Option Value → jM → Prop) => c_startInBody (Q := Q) (sv := sv) (d := d + 8) (u := u) hR1 hgi1 hin hm1 h12' h26' hb2
      have hla := (lat_add (onA A (i + 1)) (i + 1) (topA (onA A (i + 1)) (i + 1)) (mnA (onA A (i + 1)) (i + 1) - 1)).symm
      rw [t1] at hla t5
      rw [t5] at hla
      -- to the branch
      have S : Ev sv (d + 11) (39, 0, [some (.ref (ω.1 0)), some (.ref (ω.2.1 i)), some (.long X), none, none, none], []) (tv t u g I J P) Q ↔ if ovf (onA A (i + 1)) (i + 1) then Ev sv (d + 11) (39, 42, [some (.ref (ω.1 0)), some (.ref (ω.2.1 i)), some (.long X), none, some (.int (nI tp)), none], []) (tv t u g (ups I 2 7 (ω.2.1 i) 0) J P) Q else Ev sv (d + 11) (39, 57, [some (.ref (ω.1 0)), some (.ref (ω.2.1 i)), some (.long X), none, some (.int (nI tp)), none], []) (tv t u g (ups I 2 7 (ω.2.1 i) 0) J P) Q := by
        have h73 : onA A (i + 1) 7 3 = nI e0 := he
        rw [he] at c7
        by_cases k1 : b < tp
        · have k1' : nI b < nI tp := nI_lt k1 (by omega)
          by_cases k2 : e0 < tp + s
          · have k2' : nI e0 < nI (tp + s) := nI_lt k2 (by omega)
            rw [if_pos (c := ovf (onA A (i + 1)) (i + 1)) (Or.inr (by rw [h73, t1, t5]; exact k2'))]
            simp only [s_X4_printInBody_0, s_X4_printInBody_0n, s_X4_printInBody_0z, s_X4_printInBody_1n, s_X4_printInBody_1, s_X4_printInBody_1z, s_X4_printInBody_4, s_X4_printInBody_4n, s_X4_printInBody_4z, s_X4_printInBody_5, s_X4_printInBody_8, s_X4_printInBody_11, s_X4_printInBody_12, s_X4_printInBody_12n, s_X4_printInBody_12z, s_X4_printInBody_13, s_X4_printInBody_13n, s_X4_printInBody_13z, s_X4_printInBody_14, s_X4_printInBody_17, s_X4_printInBody_19, s_X4_printInBody_21, s_X4_printInBody_21n, s_X4_printInBody_21z, s_X4_printInBody_22, s_X4_printInBody_25, s_X4_printInBody_28, s_X4_printInBody_30, s_X4_printInBody_30n, s_X4_printInBody_30z, s_X4_printInBody_31, s_X4_printInBody_34, s_X4_printInBody_35, s_X4_printInBody_35n, s_X4_printInBody_35z, s_X4_printInBody_36, s_X4_printInBody_39, tl_some, tl_none, cv_int, cv_ref, cv_null, cv_long, cat_rf, jcv_nil, jcat_cons, jv_none, jv_int, jv_ref, jv_null, jw_rf, rf_some, rf_none, bz_0, bz_1, i1_0, i0_0, if_true, if_false, ite_self, List.nil_append, List.cons_append, Nat.reduceAdd, Nat.reduceLeDiff, Nat.zero_le, Nat.le_refl, and_self, and_true, true_and, not_true_eq_false, not_false_eq_true, reduceIte, hG.takes, if_pos h1, g1, c1, hsib, t1, h12n, k1', hgh, hla, c7, k2']
          · have k2' : ¬ nI e0 < nI (tp + s) := nI_nlt (by omega) (by omega)
            rw [if_neg (c := ovf (onA A (i + 1)) (i + 1)) (fun q => by
              rcases q with q | q
              · rw [h26', t1] at q; exact q.2 k1'
              · rw [h73, t1, t5] at q; exact k2' q)]
            simp only [s_X4_printInBody_0, s_X4_printInBody_0n, s_X4_printInBody_0z, s_X4_printInBody_1n, s_X4_printInBody_1, s_X4_printInBody_1z, s_X4_printInBody_4, s_X4_printInBody_4n, s_X4_printInBody_4z, s_X4_printInBody_5, s_X4_printInBody_8, s_X4_printInBody_11, s_X4_printInBody_12, s_X4_printInBody_12n, s_X4_printInBody_12z, s_X4_printInBody_13, s_X4_printInBody_13n, s_X4_printInBody_13z, s_X4_printInBody_14, s_X4_printInBody_17, s_X4_printInBody_19, s_X4_printInBody_21, s_X4_printInBody_21n, s_X4_printInBody_21z, s_X4_printInBody_22, s_X4_printInBody_25, s_X4_printInBody_28, s_X4_printInBody_30, s_X4_printInBody_30n, s_X4_printInBody_30z, s_X4_printInBody_31, s_X4_printInBody_34, s_X4_printInBody_35, s_X4_printInBody_35n, s_X4_printInBody_35z, s_X4_printInBody_36, s_X4_printInBody_39, tl_some, tl_none, cv_int, cv_ref, cv_null, cv_long, cat_rf, jcv_nil, jcat_cons, jv_none, jv_int, jv_ref, jv_null, jw_rf, rf_some, rf_none, bz_0, bz_1, i1_0, i0_0, if_true, if_false, ite_self, List.nil_append, List.cons_append, Nat.reduceAdd, Nat.reduceLeDiff, Nat.zero_le, Nat.le_refl, and_self, and_true, true_and, not_true_eq_false, not_false_eq_true, reduceIte, hG.takes, if_pos h1, g1, c1, hsib, t1, h12n, k1', hgh, hla, c7, k2']
        · have k1' : ¬ nI b < nI tp := nI_nlt (by omega) (by omega)
          have k0 : (0 : Int32) < nI b := nI_lt (a := 0) (by omega) (by omega)
          rw [if_pos (c := ovf (onA A (i + 1)) (i + 1)) (Or.inl (by rw [h26', t1]; exact ⟨k0, k1'⟩))]
          simp only [s_X4_printInBody_0, s_X4_printInBody_0n, s_X4_printInBody_0z, s_X4_printInBody_1n, s_X4_printInBody_1, s_X4_printInBody_1z, s_X4_printInBody_4, s_X4_printInBody_4n, s_X4_printInBody_4z, s_X4_printInBody_5, s_X4_printInBody_8, s_X4_printInBody_11, s_X4_printInBody_12, s_X4_printInBody_12n, s_X4_printInBody_12z, s_X4_printInBody_13, s_X4_printInBody_13n, s_X4_printInBody_13z, s_X4_printInBody_14, s_X4_printInBody_17, s_X4_printInBody_19, s_X4_printInBody_21, s_X4_printInBody_21n, s_X4_printInBody_21z, s_X4_printInBody_22, s_X4_printInBody_25, tl_some, tl_none, cv_int, cv_ref, cv_null, cv_long, cat_rf, jcv_nil, jcat_cons, jv_none, jv_int, jv_ref, jv_null, jw_rf, rf_some, rf_none, bz_0, bz_1, i1_0, i0_0, if_true, if_false, ite_self, List.nil_append, List.cons_append, Nat.reduceAdd, Nat.reduceLeDiff, Nat.zero_le, Nat.le_refl, and_self, and_true, true_and, not_true_eq_false, not_false_eq_true, reduceIte, hG.takes, if_pos h1, g1, c1, hsib, t1, h12n, k1']
      refine S.mpr ?_
      by_cases ho : ovf (onA A (i + 1)) (i + 1)
      · have er : roomA (onA A (i + 1)) (i + 1) = beginA (overA (onA A (i + 1))) := if_pos ho
        rw [er] at K
        rw [if_pos (c := ovf (onA A (i + 1)) (i + 1)) ho]
        simp only [s_X4_printInBody_42, s_X4_printInBody_42n, s_X4_printInBody_42z, s_X4_printInBody_43, tl_some, tl_none, cv_int, cv_ref, cv_null, cv_long, cat_rf, jcv_nil, jcat_cons, jv_none, jv_int, jv_ref, jv_null, jw_rf, rf_some, rf_none, bz_0, bz_1, i1_0, i0_0, if_true, if_false, ite_self, List.nil_append, List.cons_append, Nat.reduceAdd, Nat.reduceLeDiff, Nat.zero_le, Nat.le_refl, and_self, and_true, true_and, not_true_eq_false, not_false_eq_true, reduceIte, c1]
        have el : ln (onA A (i + 1)) = ln A := rfl
        have hl1 : LnA (onA A (i + 1)) := hl
        refine c_endPage (d := d) hR1 hp1.2.2.2 (by omega) (fun t2 u2 g2 I2 J2 P2 tb2 ub2 q1 q2 q3 => ?_)
        have c1b := (q2.1 _ _ c1).1
        simp only [s_X4_printInBody_46, s_X4_printInBody_46n, s_X4_printInBody_46z, s_X4_printInBody_47, tl_some, tl_none, cv_int, cv_ref, cv_null, cv_long, cat_rf, jcv_nil, jcat_cons, jv_none, jv_int, jv_ref, jv_null, jw_rf, rf_some, rf_none, bz_0, bz_1, i1_0, i0_0, if_true, if_false, ite_self, List.nil_append, List.cons_append, Nat.reduceAdd, Nat.reduceLeDiff, Nat.zero_le, Nat.le_refl, and_self, and_true, true_and, not_true_eq_false, not_false_eq_true, reduceIte, c1b]
        have hfo := overA_fr (onA A (i + 1))
        have hp2 := hfo.wp hp1
        have hov := overA_up hw1 hl1 (by omega)
        have hov2 := hov.2.2
        refine c_beginPage (d := d) q1 hp2.2.2.2 (by omega) (fun t3 u3 g3 I3 J3 P3 tb3 ub3 z1 z2 z3 z4 z5 => ?_)
        have hfb := beginA_fr (overA (onA A (i + 1)))
        have hbg := beginA_up q1.2.2.2.2.2.2.2.1 hov.1 (by omega)
        have hbg2 := hbg.2.2
        have hp3 := hfb.wp hp2
        have hw3 := z1.2.2.2.2.2.2.2.1
        have hfr3 : fr A (beginA (overA (onA A (i + 1)))) := (hfr.tr hfo).tr hfb
        have hgi3 : i < ngA (beginA (overA (onA A (i + 1)))) := by rw [hfr3.ng]; exact hgi1
        have hm3 : 0 < mnA (beginA (overA (onA A (i + 1)))) (i + 1) := by rw [hfr3.mn]; exact hm
        have hin3 : inb (beginA (overA (onA A (i + 1)))) (i + 1) := by rw [inb, hfr3 66 _ rfl]; exact hin
        have z26 := beginA_26 (overA (onA A (i + 1)))
        have c1c := (z2.1 _ _ c1b).1
        have g1c := (z2.1 _ _ (q2.1 _ _ g1).1).1
        have hsib3 := fun (Q : Option Value → jM → Prop) => c_startInBody (Q := Q) (sv := sv) (d := d + 8) (u := u3) (b := 0) z1 hgi3 hin3 hm3 (z3.trans z26.symm) z26 (by omega)
        simp only [s_X4_printInBody_50, s_X4_printInBody_50n, s_X4_printInBody_50z, s_X4_printInBody_51, s_X4_printInBody_51n, s_X4_printInBody_51z, s_X4_printInBody_52, s_X4_printInBody_55, tl_some, tl_none, cv_int, cv_ref, cv_null, cv_long, cat_rf, jcv_nil, jcat_cons, jv_none, jv_int, jv_ref, jv_null, jw_rf, rf_some, rf_none, bz_0, bz_1, i1_0, i0_0, if_true, if_false, ite_self, List.nil_append, List.cons_append, Nat.reduceAdd, Nat.reduceLeDiff, Nat.zero_le, Nat.le_refl, and_self, and_true, true_and, not_true_eq_false, not_false_eq_true, reduceIte, c1c, hsib3]
        obtain ⟨tp3, s3, a1, a2, a3, a4, a5, a6⟩ := last_nI hw3 hp3 (gi := i + 1) (b := 0) (by omega) (by omega) hm3 z26 (by omega)
        have hT2 : RT ω I2 (overA (onA A (i + 1))) st := hT1.kp q3.2.1 q3.2.2 hfo.ng
        have hT3 := hT2.up (B := beginA (overA (onA A (i + 1)))) z4 z5 hfb.ng hs
        have hRI3 : RI ω I3 (beginA (overA (onA A (i + 1)))) := by
          refine hT2.ri (by rw [z4, hT2.1, nIs]) z5 hfb.ng hs (fun j hj _ => beginA_73 _ ?_) (fun j => hfb 66 j rfl)
          have := hw3.1.2
          omega
        have ha4 := a4 rfl
        refine c_tell (d := d + 2) z1 hp3 hgi3 hm3 hT3 (fun _ => hRI3) a5 (by omega) (by omega) (fun t4 u4 g4 I4 J4 P4 tb4 ub4 w1 w2 w3 w4 => ?_)
        exact K t4 u4 g4 I4 J4 P4 tb4 ub4 (st + 1) w1 (((hN1.tr q2).tr z2).tr w2) w3 (Nat.le_refl _) (fun _ => w4 hRI3)
      · have er : roomA (onA A (i + 1)) (i + 1) = onA A (i + 1) := if_neg ho
        rw [er] at K
        rw [if_neg (c := ovf (onA A (i + 1)) (i + 1)) ho]
        have hle : tp + s ≤ 1000 := by
          have k2 : ¬ nI e0 < nI (tp + s) := fun q => ho (Or.inr (by
            have h73 : onA A (i + 1) 7 3 = nI e0 := he
            rw [h73, t1, t5]; exact q))
          by_cases k : e0 < tp + s
          · exact absurd (nI_lt k (by omega)) k2
          · omega
        rw [← t1]
        refine c_tell (d := d + 2) hR1 hp1 hgi1 hm1 hT1 (fun h => hRI1 (h3 h)) (by rw [t1]; exact t5) hle (by show ln A + 10 ≤ 100000; omega) (fun t4 u4 g4 I4 J4 P4 tb4 ub4 w1 w2 w3 w4 => ?_)
        exact K t4 u4 g4 I4 J4 P4 tb4 ub4 st w1 (hN1.tr w2) w3 (by omega) (fun h => w4 (hRI1 h))
    · rw [if_neg h1] at K
      simp only [s_X4_printInBody_0, s_X4_printInBody_0n, s_X4_printInBody_0z, s_X4_printInBody_1n, s_X4_printInBody_1, s_X4_printInBody_1z, s_X4_printInBody_4, s_X4_printInBody_4n, s_X4_printInBody_4z, s_X4_printInBody_5, s_X4_printInBody_8, s_X4_printInBody_11, s_X4_printInBody_12, s_X4_printInBody_12n, s_X4_printInBody_12z, s_X4_printInBody_13, s_X4_printInBody_13n, s_X4_printInBody_13z, s_X4_printInBody_14, s_X4_printInBody_17, s_X4_printInBody_19, s_X4_printInBody_21, s_X4_printInBody_21n, s_X4_printInBody_21z, s_X4_printInBody_22, s_X4_printInBody_25, s_X4_printInBody_28, s_X4_printInBody_30, s_X4_printInBody_30n, s_X4_printInBody_30z, s_X4_printInBody_31, s_X4_printInBody_34, s_X4_printInBody_35, s_X4_printInBody_35n, s_X4_printInBody_35z, s_X4_printInBody_36, s_X4_printInBody_39, s_X4_printInBody_42, s_X4_printInBody_42n, s_X4_printInBody_42z, s_X4_printInBody_43, s_X4_printInBody_46, s_X4_printInBody_46n, s_X4_printInBody_46z, s_X4_printInBody_47, s_X4_printInBody_50, s_X4_printInBody_50n, s_X4_printInBody_50z, s_X4_printInBody_51, s_X4_printInBody_51n, s_X4_printInBody_51z, s_X4_printInBody_52, s_X4_printInBody_55, s_X4_printInBody_57, s_X4_printInBody_57n, s_X4_printInBody_57z, s_X4_printInBody_58, s_X4_printInBody_61, s_X4_printInBody_64, s_X4_printInBody_64n, s_X4_printInBody_64z, s_X4_printInBody_65, s_X4_printInBody_68, s_X4_printInBody_68n, s_X4_printInBody_68z, s_X4_printInBody_69, s_X4_printInBody_72, s_X4_printInBody_75, s_X4_printInBody_76, s_X4_printInBody_79, s_X4_printInBody_80, s_X4_printInBody_82, s_X4_printInBody_82n, s_X4_printInBody_82z, s_X4_printInBody_83, s_X4_printInBody_85, s_X4_printInBody_85n, s_X4_printInBody_85z, s_X4_printInBody_86, s_X4_printInBody_88, s_X4_printInBody_91, s_X4_printInBody_92, s_X4_printInBody_95, s_X4_printInBody_96, s_X4_printInBody_99, s_X4_printInBody_99n, s_X4_printInBody_99z, s_X4_printInBody_100, s_X4_printInBody_100n, s_X4_printInBody_100z, s_X4_printInBody_101, s_X4_printInBody_104, s_X4_printInBody_107, s_X4_printInBody_107n, s_X4_printInBody_107z, s_X4_printInBody_108, s_X4_printInBody_108n, s_X4_printInBody_108z, s_X4_printInBody_109, s_X4_printInBody_112, s_X4_printInBody_115, tl_some, tl_none, cv_int, cv_ref, cv_null, cv_long, cat_rf, jcv_nil, jcat_cons, jv_none, jv_int, jv_ref, jv_null, jw_rf, rf_some, rf_none, bz_0, bz_1, i1_0, i0_0, if_true, if_false, ite_self, List.nil_append, List.cons_append, Nat.reduceAdd, Nat.reduceLeDiff, Nat.zero_le, Nat.le_refl, and_self, and_true, true_and, not_true_eq_false, not_false_eq_true, reduceIte, hG.takes, if_neg h1, g1, c1]
      exact K t u g _ J P tb ub st hR1 hN1 ⟨h12, ⟨b, h26, hb2⟩, hT1⟩ (by omega) hRI1
end
