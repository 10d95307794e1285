-- ===== pages begin and end =====
theorem fndN_hit {A : Nat → Nat → Int32} {kd lv : Int32} : ∀ n, ¬ fndN A kd lv n = 0 → A 66 (fndN A kd lv n) = kd ∧ A 67 (fndN A kd lv n) = lv
  | 0, h => absurd rfl h
  | n + 1, h => by
    unfold fndN at h ⊢
    by_cases c : A 66 (n + 1) = kd ∧ A 67 (n + 1) = lv
    · rw [if_pos c]; exact c
    · rw [if_neg c] at h ⊢; exact fndN_hit n h
theorem gF_hit {A : Nat → Nat → Int32} {kd lv : Int32} (h : ¬ gF A kd lv = 0) : A 66 (gF A kd lv) = kd ∧ A 67 (gF A kd lv) = lv := fndN_hit _ h
theorem turnP_o {A : Nat → Nat → Int32} {gi : Nat} {f v : Int32} {κ j : Nat} (h1 : κ ≠ 78) (h2 : ¬ (κ = 7 ∧ (j = 25 ∨ j = 28))) (h3 : κ ≠ 71) : turnA A gi (fun B => putFromA B gi f v) κ j = A κ j := by
  have e : onA A gi κ j = A κ j := by
    show upA A 71 gi 0 κ j = _
    rw [upA_ap, if_neg (fun q => h3 q.1)]
  unfold turnA
  split
  · rfl
  · split
    · show pAllA (onA A gi) gi _ v _ κ j = _
      rw [pAllA_o h1 h2, e]
    · exact e
theorem overA_o {A : Nat → Nat → Int32} {κ j : Nat} (h1 : κ ≠ 78) (h2 : ¬ (κ = 7 ∧ (j = 25 ∨ j = 28))) (h3 : κ ≠ 71) : overA A κ j = A κ j := turnP_o h1 h2 h3
theorem beginA_26 (A : Nat → Nat → Int32) : beginA A 7 26 = 0 := by
  unfold beginA
  rw [turnP_o (by decide) (by decide) (by decide)]
  show frs _ 21 7 26 = 0
  rw [frs_o _ (by decide)]
  rfl
theorem beginA_73 (A : Nat → Nat → Int32) {j : Nat} (hj : j < 21) : beginA A 73 j = 0 := by
  unfold beginA
  rw [turnP_o (by decide) (by omega) (by decide)]
  show frs _ 21 73 j = 0
  rw [frs_73, if_pos hj]
section
variable {sv : Nat → Value} {d t u : Nat} {Q : Option Value → jM → Prop} {g : jG} {I I' : tI} {J : tJ} {P : tP} {A B : Nat → Nat → Int32} {T : Nat → Int64} {ω : Wd} {tb ub : Nat} {x y z : Int32}
theorem c_endPage (hR : Rel sv ω t g I J P A T tb ub) (hu : UqA A) (hb : ln A + 10 ≤ 100000)
    (K : ∀ (t' u' : Nat) (g' : jG) (I' : tI) (J' : tJ) (P' : tP) (tb' ub' : Nat), Rel sv ω t' g' I' J' P' (overA A) T tb' ub' → Nx t u g I J P tb ub t' u' g' I' J' P' tb' ub' → Kp ω I I' → Q none (tv t' u' g' I' J' P')) :
    Ev sv (d + 10) (41, 0, [some (.ref (ω.1 0))], []) (tv t u g I J P) Q := by
  have c1 := hR.1.1
  have hgo := fun (Q : Option Value → jM → Prop) => c_groupOf (Q := Q) (sv := sv) (d := d + 6) (u := u) (kd := 5) (lv := 0) hR hu (by decide)
  simp only [s_X4_endPage_0, s_X4_endPage_0n, s_X4_endPage_0z, s_X4_endPage_1, s_X4_endPage_1n, s_X4_endPage_1z, s_X4_endPage_2, s_X4_endPage_3, s_X4_endPage_4, s_X4_endPage_7, tl_some, tl_none, cv_int, cv_ref, cv_null, cv_long, cat_rf, jcv_nil, jcat_cons, jv_none, jv_int, jv_ref, jv_null, jw_rf, rf_some, rf_none, bz_0, bz_1, i1_0, i0_0, if_true, if_false, ite_self, List.nil_append, List.cons_append, Nat.reduceAdd, Nat.reduceLeDiff, Nat.zero_le, Nat.le_refl, and_self, and_true, true_and, not_true_eq_false, not_false_eq_true, reduceIte, c1, hgo]
  refine c_outside (d := d) hR (f := A 7 3) (gF_le A 5 0) (fun h0 => ?_) hb (fun t' u' g' I' J' P' tb' ub' r1 r2 r3 => ?_)
  · have h := (gF_hit h0).1
    rw [h]
    exact ⟨fun q => by rcases q with q | q | q <;> rw [h] at q <;> exact absurd q (by decide), (if_pos rfl).symm⟩
  · simp only [s_X4_endPage_10, tl_some, tl_none, cv_int, cv_ref, cv_null, cv_long, cat_rf, jcv_nil, jcat_cons, jv_none, jv_int, jv_ref, jv_null, jw_rf, rf_some, rf_none, bz_0, bz_1, i1_0, i0_0, if_true, if_false, ite_self, List.nil_append, List.cons_append, Nat.reduceAdd, Nat.reduceLeDiff, Nat.zero_le, Nat.le_refl, and_self, and_true, true_and, not_true_eq_false, not_false_eq_true, reduceIte]
    exact K t' u' g' I' J' P' tb' ub' r1 r2 r3
/-- the numbers of a page that begins -/
theorem Rel.beg (hR : Rel sv ω t g I J P A T tb ub) {y : Int32} : Rel sv ω t g (ups (ups (ups (ups I 6 10 (ω.1 0) (I 6 10 (ω.1 0) + 1)) 6 11 (ω.1 0) 0) 6 12 (ω.1 0) 0) 6 15 (ω.1 0) y) J P (freshA (upA (pageA A) 7 26 0)) T tb ub := by
  have e7 : ∀ j, freshA (upA (pageA A) 7 26 0) 7 j = upA (pageA A) 7 26 0 7 j := fun j => frs_o _ (by decide) 21
  obtain ⟨c1, c2, c3, c4, c5, c6, c7, c8, c9, c10, c11, c12, c13⟩ := hR.1
  refine hR.scal ⟨c1, c2, c3, c4, by rw [e7]; exact c5, by rw [e7]; exact c6, by rw [e7]; exact c7, by rw [e7]; exact c8, by rw [e7]; exact c9, ?_, ?_, by rw [e7]; exact c12, by rw [e7]; exact c13⟩ (fun κ h => by rw [ups_o h, ups_o h, ups_o h, ups_o h]) (fun κ j h1 h2 => ?_) (beg0_fr A).fs (by rw [e7]; rfl)
  · rw [e7]
    show ups (ups (ups (ups I 6 10 (ω.1 0) (I 6 10 (ω.1 0) + 1)) 6 11 (ω.1 0) 0) 6 12 (ω.1 0) 0) 6 15 (ω.1 0) y 6 10 (ω.1 0) = A 7 24 + 1
    rw [← c10]
    show (if 6 = 6 ∧ 10 = 10 ∧ ω.1 0 = ω.1 0 then I 6 10 (ω.1 0) + 1 else I 6 10 (ω.1 0)) = _
    rw [if_pos ⟨rfl, rfl, rfl⟩]
  · rw [e7]
    show (if 6 = 6 ∧ 11 = 11 ∧ ω.1 0 = ω.1 0 then (0 : Int32) else _) = 0
    rw [if_pos ⟨rfl, rfl, rfl⟩]
  · show frs _ 21 κ j = _
    rw [frs_o _ h2, upA_ap, if_neg (fun q => h1 q.1)]
    show upA (upA A 7 24 _) 7 25 0 κ j = _
    rw [upA_ap, if_neg (fun q => h1 q.1), upA_ap, if_neg (fun q => h1 q.1)]
theorem c_beginPage (hR : Rel sv ω t g I J P A T tb ub) (hu : UqA A) (hb : ln A + 10 ≤ 100000)
    (K : ∀ (t' u' : Nat) (g' : jG) (I' : tI) (J' : tJ) (P' : tP) (tb' ub' : Nat), Rel sv ω t' g' I' J' P' (beginA A) T tb' ub' → Nx t u g I J P tb ub t' u' g' I' J' P' tb' ub' → I' 6 12 (ω.1 0) = 0 → I' 6 15 (ω.1 0) = I 6 15 (ω.1 0) + 1 → (∀ b, I' 2 9 b = I 2 9 b) → Q none (tv t' u' g' I' J' P')) :
    Ev sv (d + 10) (40, 0, [some (.ref (ω.1 0))], []) (tv t u g I J P) Q := by
  have c1 := hR.1.1
  have hl := hR.2.2.2.2.2.2.2.2.1
  have hfr := beg0_fr A
  have hR1 := hR.beg (y := I 6 15 (ω.1 0) + 1)
  have r15 : ups (ups (ups I 6 10 (ω.1 0) (I 6 10 (ω.1 0) + 1)) 6 11 (ω.1 0) 0) 6 12 (ω.1 0) 0 6 15 (ω.1 0) = I 6 15 (ω.1 0) := rfl
  have e28 : freshA (upA (pageA A) 7 26 0) 7 28 = A 7 28 := frs_28 _ 21
  have hgo := fun (Q : Option Value → jM → Prop) => c_groupOf (Q := Q) (sv := sv) (d := d + 6) (u := u) (kd := 1) (lv := 0) hR1 (by
    intro i j a1 a2 a3 a4 a5 a6 a7
    rw [hfr.ng] at a2 a4
    rw [hfr 66 i rfl] at a5
    rw [hfr 66 i rfl, hfr 66 j rfl] at a6
    rw [hfr 67 i rfl, hfr 67 j rfl] at a7
    exact hu i j a1 a2 a3 a4 a5 a6 a7) (by decide)
  rw [hfr.gf] at hgo
  have hcp := fun (Q : Option Value → jM → Prop) => c_countPage (Q := Q) (sv := sv) (d := d + 9) (t := t) (u := u) (I := I) (J := J) (P := P) c1
  simp only [s_X4_beginPage_0, s_X4_beginPage_0n, s_X4_beginPage_0z, s_X4_beginPage_1, s_X4_beginPage_4, s_X4_beginPage_4n, s_X4_beginPage_4z, s_X4_beginPage_5, s_X4_beginPage_6, s_X4_beginPage_9, s_X4_beginPage_10, s_X4_beginPage_11, s_X4_beginPage_14, s_X4_beginPage_14n, s_X4_beginPage_14z, s_X4_beginPage_15, s_X4_beginPage_15n, s_X4_beginPage_15z, s_X4_beginPage_16, s_X4_beginPage_17, s_X4_beginPage_18, s_X4_beginPage_21, tl_some, tl_none, cv_int, cv_ref, cv_null, cv_long, cat_rf, jcv_nil, jcat_cons, jv_none, jv_int, jv_ref, jv_null, jw_rf, rf_some, rf_none, bz_0, bz_1, i1_0, i0_0, if_true, if_false, ite_self, List.nil_append, List.cons_append, Nat.reduceAdd, Nat.reduceLeDiff, Nat.zero_le, Nat.le_refl, and_self, and_true, true_and, not_true_eq_false, not_false_eq_true, reduceIte, c1, hcp, r15, hgo]
  refine c_outside (d := d) hR1 (f := 0) (by rw [hfr.ng]; exact gF_le A 1 0) (fun h0 => ?_) (by have := (lnUp_same e28 hl).2.2; omega) (fun t' u' g' I' J' P' tb' ub' q1 q2 q3 => ?_)
  · have h := (gF_hit h0).1
    rw [hfr 66 _ rfl, h]
    refine ⟨fun q => ?_, rfl⟩
    rw [inb, hfr 66 _ rfl, h] at q
    rcases q with q | q | q <;> exact absurd q (by decide)
  · simp only [s_X4_beginPage_24, tl_some, tl_none, cv_int, cv_ref, cv_null, cv_long, cat_rf, jcv_nil, jcat_cons, jv_none, jv_int, jv_ref, jv_null, jw_rf, rf_some, rf_none, bz_0, bz_1, i1_0, i0_0, if_true, if_false, ite_self, List.nil_append, List.cons_append, Nat.reduceAdd, Nat.reduceLeDiff, Nat.zero_le, Nat.le_refl, and_self, and_true, true_and, not_true_eq_false, not_false_eq_true, reduceIte]
    have hN : Nx t u g I J P tb ub t u g (ups (ups (ups (ups I 6 10 (ω.1 0) (I 6 10 (ω.1 0) + 1)) 6 11 (ω.1 0) 0) 6 12 (ω.1 0) 0) 6 15 (ω.1 0) (I 6 15 (ω.1 0) + 1)) J P tb ub := Nx_I (fun κ hκ => by rw [ups_o (by omega), ups_o (by omega), ups_o (by omega), ups_o (by omega)])
    refine K t' u' g' I' J' P' tb' ub' q1 (hN.tr q2) ?_ ?_ (fun b => q3.2.2 b)
    · rw [q3.1]
      show (if 6 = 6 ∧ 12 = 12 ∧ ω.1 0 = ω.1 0 then (0 : Int32) else _) = 0
      rw [if_pos ⟨rfl, rfl, rfl⟩]
    · rw [q3.2.1, ups_ap, if_pos ⟨rfl, rfl, rfl⟩]
/-- the numbers of a page of its own -/
theorem Rel.own (hR : Rel sv ω t g I J P A T tb ub) : Rel sv ω t g (ups (ups (ups I 6 10 (ω.1 0) (I 6 10 (ω.1 0) + 1)) 6 11 (ω.1 0) 0) 6 12 (ω.1 0) 0) J P (pageA A) T tb ub := by
  obtain ⟨c1, c2, c3, c4, c5, c6, c7, c8, c9, c10, c11, c12, c13⟩ := hR.1
  refine hR.scal ⟨c1, c2, c3, c4, c5, c6, c7, c8, c9, ?_, ?_, c12, c13⟩ (fun κ h => by rw [ups_o h, ups_o h, ups_o h]) (fun κ j h1 h2 => ?_) (pageA_fr A).fs rfl
  · show (if 6 = 6 ∧ 10 = 10 ∧ ω.1 0 = ω.1 0 then I 6 10 (ω.1 0) + 1 else I 6 10 (ω.1 0)) = A 7 24 + 1
    rw [if_pos ⟨rfl, rfl, rfl⟩, c10]
  · show (if 6 = 6 ∧ 11 = 11 ∧ ω.1 0 = ω.1 0 then (0 : Int32) else _) = 0
    rw [if_pos ⟨rfl, rfl, rfl⟩]
  · show upA (upA A 7 24 _) 7 25 0 κ j = _
    rw [upA_ap, if_neg (fun q => h1 q.1), upA_ap, if_neg (fun q => h1 q.1)]
theorem c_alone (hR : Rel sv ω t g I J P A T tb ub) {kd : Int32} (hkd : kd = 0 ∨ kd = 6) (hb : ln A + 10 ≤ 100000)
    (K : ∀ (t' u' : Nat) (g' : jG) (I' : tI) (J' : tJ) (P' : tP) (tb' ub' : Nat), Rel sv ω t' g' I' J' P' (aloneA A kd) T tb' ub' → Nx t u g I J P tb ub t' u' g' I' J' P' tb' ub' → I' 6 15 (ω.1 0) = I 6 15 (ω.1 0) → (∀ b, I' 2 9 b = I 2 9 b) → Q none (tv t' u' g' I' J' P')) :
    Ev sv (d + 9) (44, 0, [some (.ref (ω.1 0)), some (va_rf (gR ω (gF A kd 0)))], []) (tv t u g I J P) Q := by
  have hle := gF_le A kd 0
  have hit : ¬ gF A kd 0 = 0 → _ := gF_hit
  unfold aloneA at K
  generalize gF A kd 0 = gi at K hle hit
  by_cases h0 : gi = 0
  · subst h0
    have e : gR ω 0 = none := rfl
    rw [e]
    simp only [s_X4_printOnOwnPage_0, s_X4_printOnOwnPage_0n, s_X4_printOnOwnPage_0z, s_X4_printOnOwnPage_1n, s_X4_printOnOwnPage_1, s_X4_printOnOwnPage_1z, s_X4_printOnOwnPage_4, s_X4_printOnOwnPage_4n, s_X4_printOnOwnPage_4z, s_X4_printOnOwnPage_5, s_X4_printOnOwnPage_8, s_X4_printOnOwnPage_11, s_X4_printOnOwnPage_11n, s_X4_printOnOwnPage_11z, s_X4_printOnOwnPage_12, s_X4_printOnOwnPage_15, s_X4_printOnOwnPage_15n, s_X4_printOnOwnPage_15z, s_X4_printOnOwnPage_16, s_X4_printOnOwnPage_16n, s_X4_printOnOwnPage_16z, s_X4_printOnOwnPage_17, s_X4_printOnOwnPage_17n, s_X4_printOnOwnPage_17z, s_X4_printOnOwnPage_18, s_X4_printOnOwnPage_21, s_X4_printOnOwnPage_21n, s_X4_printOnOwnPage_21z, s_X4_printOnOwnPage_22, s_X4_printOnOwnPage_25, s_X4_printOnOwnPage_25n, s_X4_printOnOwnPage_25z, s_X4_printOnOwnPage_26, s_X4_printOnOwnPage_29, s_X4_printOnOwnPage_32, s_X4_printOnOwnPage_32n, s_X4_printOnOwnPage_32z, s_X4_printOnOwnPage_33, s_X4_printOnOwnPage_34, s_X4_printOnOwnPage_37, tl_some, tl_none, cv_int, cv_ref, cv_null, cv_long, cat_rf, jcv_nil, jcat_cons, jv_none, jv_int, jv_ref, jv_null, jw_rf, rf_some, rf_none, bz_0, bz_1, i1_0, i0_0, if_true, if_false, ite_self, List.nil_append, List.cons_append, Nat.reduceAdd, Nat.reduceLeDiff, Nat.zero_le, Nat.le_refl, and_self, and_true, true_and, not_true_eq_false, not_false_eq_true, reduceIte]
    exact K t u g I J P tb ub hR (Nx_I (fun _ _ => rfl)) rfl (fun _ => rfl)
  · have h66 := (hit h0).1
    obtain ⟨i, rfl⟩ : ∃ i, gi = i + 1 := ⟨gi - 1, by omega⟩
    have e : gR ω (i + 1) = some (ω.2.1 i) := rfl
    rw [e]
    have hgi1 : i < ngA A := by omega
    have hG := hR.2.2.1.2.1 i hgi1
    have g1 := hG.1
    have hw := hR.2.2.2.2.2.2.2.1
    have hR1 := hR.on (i := i) hgi1
    have c1 := hR.1.1
    have hl := hR.2.2.2.2.2.2.2.2.1
    have hfr := onA_fr A (i + 1)
    have et : turnA A (i + 1) (fun B => putFromA (pageA B) (i + 1) 0 0) = if isOA A (i + 1) then putFromA (pageA (onA A (i + 1))) (i + 1) 0 0 else onA A (i + 1) := by
      unfold turnA
      rw [if_neg h0]
    rw [et] at K
    have hN1 : Nx t u g I J P tb ub t u g (ups I 2 7 (ω.2.1 i) 0) J P tb ub := Nx_I (fun κ hκ => ups_o (by omega))
    by_cases h1 : isOA A (i + 1)
    · rw [if_pos h1] at K
      have hmn := isOA_mn hw h1
      have hR2 := hR1.own
      have hG1 := hR2.2.2.1.2.1 i hgi1
      have hst := hG1.stn hmn
      have hsn : stN (pageA (onA A (i + 1))) (i + 1) = if pageA (onA A (i + 1)) 70 (i + 1) = 0 then 0 + pageA (onA A (i + 1)) 69 (10 * (i + 1)) else pageA (onA A (i + 1)) 69 (10 * (i + 1)) := by
        unfold stN
        have e66 : pageA (onA A (i + 1)) 66 (i + 1) = kd := h66
        have hnb : ¬ inb (pageA (onA A (i + 1))) (i + 1) := by
          intro q
          rw [inb, e66] at q
          rcases hkd with rfl | rfl <;> rcases q with q | q | q <;> exact absurd q (by decide)
        have h5 : ¬ kd = 5 := by rcases hkd with rfl | rfl <;> decide
        rw [if_neg hnb, e66, if_neg h5, Int32.zero_add]
      have hcs := fun (Q : Option Value → jM → Prop) (x y z : Int32) => c_start (Q := Q) (sv := sv) (d := d + 7) (u := u) (x := x) (y := y) (z := z) hR2
      have hcp := fun (Q : Option Value → jM → Prop) (I : tI) => c_countPage (Q := Q) (sv := sv) (d := d + 8) (t := t) (u := u) (I := I) (J := J) (P := P) c1
      simp only [s_X4_printOnOwnPage_0, s_X4_printOnOwnPage_0n, s_X4_printOnOwnPage_0z, s_X4_printOnOwnPage_1n, s_X4_printOnOwnPage_1, s_X4_printOnOwnPage_1z, s_X4_printOnOwnPage_4, s_X4_printOnOwnPage_4n, s_X4_printOnOwnPage_4z, s_X4_printOnOwnPage_5, s_X4_printOnOwnPage_8, s_X4_printOnOwnPage_11, s_X4_printOnOwnPage_11n, s_X4_printOnOwnPage_11z, s_X4_printOnOwnPage_12, s_X4_printOnOwnPage_15, s_X4_printOnOwnPage_15n, s_X4_printOnOwnPage_15z, s_X4_printOnOwnPage_16, s_X4_printOnOwnPage_16n, s_X4_printOnOwnPage_16z, s_X4_printOnOwnPage_17, s_X4_printOnOwnPage_17n, s_X4_printOnOwnPage_17z, s_X4_printOnOwnPage_18, s_X4_printOnOwnPage_21, s_X4_printOnOwnPage_21n, s_X4_printOnOwnPage_21z, s_X4_printOnOwnPage_22, s_X4_printOnOwnPage_25, s_X4_printOnOwnPage_25n, s_X4_printOnOwnPage_25z, s_X4_printOnOwnPage_26, s_X4_printOnOwnPage_29, s_X4_printOnOwnPage_32, s_X4_printOnOwnPage_32n, s_X4_printOnOwnPage_32z, s_X4_printOnOwnPage_33, s_X4_printOnOwnPage_34, s_X4_printOnOwnPage_37, tl_some, tl_none, cv_int, cv_ref, cv_null, cv_long, cat_rf, jcv_nil, jcat_cons, jv_none, jv_int, jv_ref, jv_null, jw_rf, rf_some, rf_none, bz_0, bz_1, i1_0, i0_0, if_true, if_false, ite_self, List.nil_append, List.cons_append, Nat.reduceAdd, Nat.reduceLeDiff, Nat.zero_le, Nat.le_refl, and_self, and_true, true_and, not_true_eq_false, not_false_eq_true, reduceIte, hG.takes, if_pos h1, g1, c1, hcp, hcs, hst]
      refine c_printFrom (d := d) hR2 hgi1 (by have e : ln (pageA (onA A (i + 1))) = ln A := rfl; rw [e]; exact hb) (fun t' u' g' I' J' P' tb' ub' r1 r2 r3 => ?_)
      simp only [s_X4_printOnOwnPage_37, tl_some, tl_none, cv_int, cv_ref, cv_null, cv_long, cat_rf, jcv_nil, jcat_cons, jv_none, jv_int, jv_ref, jv_null, jw_rf, rf_some, rf_none, bz_0, bz_1, i1_0, i0_0, if_true, if_false, ite_self, List.nil_append, List.cons_append, Nat.reduceAdd, Nat.reduceLeDiff, Nat.zero_le, Nat.le_refl, and_self, and_true, true_and, not_true_eq_false, not_false_eq_true, reduceIte]
      have hN2 : Nx t u g (ups I 2 7 (ω.2.1 i) 0) J P tb ub t u g (ups (ups (ups (ups I 2 7 (ω.2.1 i) 0) 6 10 (ω.1 0) (ups I 2 7 (ω.2.1 i) 0 6 10 (ω.1 0) + 1)) 6 11 (ω.1 0) 0) 6 12 (ω.1 0) 0) J P tb ub := Nx_I (fun κ hκ => by rw [ups_o (by omega), ups_o (by omega), ups_o (by omega)])
      refine K t' u' g' I' J' P' tb' ub' ?_ ((hN1.tr hN2).tr r2) r3.2.1 (fun b => (r3.2.2 b).trans ?_)
      · unfold putFromA
        rw [← hsn]
        exact r1
      · show ups I 2 7 (ω.2.1 i) 0 2 9 b = _
        rw [ups_ap, if_neg (fun q => absurd q.2.1 (by decide))]
    · rw [if_neg h1] at K
      simp only [s_X4_printOnOwnPage_0, s_X4_printOnOwnPage_0n, s_X4_printOnOwnPage_0z, s_X4_printOnOwnPage_1n, s_X4_printOnOwnPage_1, s_X4_printOnOwnPage_1z, s_X4_printOnOwnPage_4, s_X4_printOnOwnPage_4n, s_X4_printOnOwnPage_4z, s_X4_printOnOwnPage_5, s_X4_printOnOwnPage_8, s_X4_printOnOwnPage_11, s_X4_printOnOwnPage_11n, s_X4_printOnOwnPage_11z, s_X4_printOnOwnPage_12, s_X4_printOnOwnPage_15, s_X4_printOnOwnPage_15n, s_X4_printOnOwnPage_15z, s_X4_printOnOwnPage_16, s_X4_printOnOwnPage_16n, s_X4_printOnOwnPage_16z, s_X4_printOnOwnPage_17, s_X4_printOnOwnPage_17n, s_X4_printOnOwnPage_17z, s_X4_printOnOwnPage_18, s_X4_printOnOwnPage_21, s_X4_printOnOwnPage_21n, s_X4_printOnOwnPage_21z, s_X4_printOnOwnPage_22, s_X4_printOnOwnPage_25, s_X4_printOnOwnPage_25n, s_X4_printOnOwnPage_25z, s_X4_printOnOwnPage_26, s_X4_printOnOwnPage_29, s_X4_printOnOwnPage_32, s_X4_printOnOwnPage_32n, s_X4_printOnOwnPage_32z, s_X4_printOnOwnPage_33, s_X4_printOnOwnPage_34, s_X4_printOnOwnPage_37, tl_some, tl_none, cv_int, cv_ref, cv_null, cv_long, cat_rf, jcv_nil, jcat_cons, jv_none, jv_int, jv_ref, jv_null, jw_rf, rf_some, rf_none, bz_0, bz_1, i1_0, i0_0, if_true, if_false, ite_self, List.nil_append, List.cons_append, Nat.reduceAdd, Nat.reduceLeDiff, Nat.zero_le, Nat.le_refl, and_self, and_true, true_and, not_true_eq_false, not_false_eq_true, reduceIte, hG.takes, if_neg h1, g1, c1]
      exact K t u g _ J P tb ub hR1 hN1 rfl (fun b => by rw [ups_ap, if_neg (fun q => absurd q.2.1 (by decide))])
end
