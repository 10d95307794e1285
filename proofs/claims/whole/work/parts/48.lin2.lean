section
variable {sv : Nat → Value} {d t u : Nat} {Q : Option Value → jM → Prop} {g : jG} {I I' : tI} {J : tJ} {P : tP} {A B : Nat → Nat → Int32} {T T' : Nat → Int64} {ω : Wd} {tb ub st : Nat} {x y z : Int32}
theorem i32_1 {x : Int32} (h : ¬ x < 1) : 0 < x := by
  have h3 : ¬ x.toInt < 1 := fun z => h (i32_lt.mpr (by simpa using z))
  exact i32_lt.mpr (by have : (0 : Int32).toInt = 0 := rfl; omega)
/-- addLine, and what it leaves -/
theorem c_addLine (hR : Rel sv ω t g I J P A T tb ub) (hV : Inv ω I A st) (h21 : A 7 21 = 0) {i : Nat} (hi : i < ngA A) (hm : mnA A (i + 1) < 10) {yn : Nat} (hy : y = nI yn) (hy1 : 1 ≤ yn) (hy2 : yn ≤ 100) (hz : bz z) (hf : fitA A (i + 1) y z)
    (K : ∀ I', Rel sv ω t g I' J P (linA A (i + 1) y z) T tb ub → Nx t u g I J P tb ub t u g I' J P tb ub → Inv ω I' (linA A (i + 1) y z) st → Q none (tv t u g I' J P)) :
    Ev sv (d + 1) (1, 0, [some (.ref (ω.2.1 i)), some (.int y), some (.int z)], []) (tv t u g I J P) Q := by
  have hw := hR.2.2.2.2.2.2.2.1
  have hmn := hw.2.2.2.1 (i + 1)
  have hG := hR.2.2.1.2.1 i hi
  have hginj := hR.2.2.1.2.2.1
  obtain ⟨g1, g2, g3, g4, g5, g6, g7, g8, g9, g10, g11, g12⟩ := hG
  have g8' : I 2 5 (ω.2.1 i) = nI (mnA A (i + 1)) := g8.trans hmn.1
  have hofn : Int32.ofNat 10 = nI 10 := rfl
  have hlt : nI (mnA A (i + 1)) < nI 10 := nI_lt hm (by omega)
  have hs := nIs (mnA A (i + 1))
  by_cases h0 : mnA A (i + 1) = 0
  · have h68 : A 68 (i + 1) = 0 := by rw [hmn.1, h0]; rfl
    have hz0 : nI (mnA A (i + 1)) = 0 := by rw [h0]; rfl
    have r5 : ∀ v w, ups (ups I 2 3 (ω.2.1 i) v) 2 4 (ω.2.1 i) w 2 5 (ω.2.1 i) = nI (mnA A (i + 1)) := fun v w => g8'
    have S : Ev sv (d + 1) (1, 0, [some (.ref (ω.2.1 i)), some (.int y), some (.int z)], []) (tv t u g I J P) Q ↔ Q none (tv t u g (ups (ups (ups I 2 3 (ω.2.1 i) y) 2 4 (ω.2.1 i) z) 2 5 (ω.2.1 i) (nI (mnA A (i + 1) + 1))) J P) := by
      rw [← hs]
      rw [hz0] at r5 g8' hlt ⊢
      simp only [s_X0_addLine_0, s_X0_addLine_0n, s_X0_addLine_0z, s_X0_addLine_1, s_X0_addLine_4, s_X0_addLine_4n, s_X0_addLine_4z, s_X0_addLine_5, s_X0_addLine_8, s_X0_addLine_9, s_X0_addLine_12, s_X0_addLine_13, s_X0_addLine_13n, s_X0_addLine_13z, s_X0_addLine_14, s_X0_addLine_17, s_X0_addLine_20, s_X0_addLine_20n, s_X0_addLine_20z, s_X0_addLine_21, s_X0_addLine_22, s_X0_addLine_25, s_X0_addLine_25n, s_X0_addLine_25z, s_X0_addLine_26, s_X0_addLine_27, s_X0_addLine_30, s_X0_addLine_33, s_X0_addLine_33n, s_X0_addLine_33z, s_X0_addLine_34, s_X0_addLine_37, s_X0_addLine_37n, s_X0_addLine_37z, s_X0_addLine_38, s_X0_addLine_41, s_X0_addLine_41n, s_X0_addLine_41z, s_X0_addLine_42, s_X0_addLine_45, s_X0_addLine_46, s_X0_addLine_47, s_X0_addLine_48, s_X0_addLine_48n, s_X0_addLine_48z, s_X0_addLine_49, s_X0_addLine_50, s_X0_addLine_53, s_X0_addLine_54, s_X0_addLine_55, s_X0_addLine_58, tl_some, tl_none, cv_int, cv_ref, cv_null, cv_long, cat_rf, jcv_nil, jcat_cons, jv_none, jv_int, jv_ref, jv_null, jw_rf, rf_some, rf_none, bz_0, bz_1, i1_0, i0_0, if_true, if_false, ite_self, List.nil_append, List.cons_append, Nat.reduceAdd, Nat.reduceLeDiff, Nat.zero_le, Nat.le_refl, and_self, and_true, true_and, not_true_eq_false, not_false_eq_true, reduceIte, g1, g2, g3, g4, g8', hofn, hlt, hz, r5]
    refine S.mpr ?_
    have e2 : ∀ k b, ¬ (b = ω.2.1 i ∧ (k = 3 ∨ k = 4 ∨ k = 5)) → ups (ups (ups I 2 3 (ω.2.1 i) y) 2 4 (ω.2.1 i) z) 2 5 (ω.2.1 i) (nI (mnA A (i + 1) + 1)) 2 k b = I 2 k b := fun k b h => by
      rw [ups_ap, if_neg (fun q => h ⟨q.2.2, Or.inr (Or.inr q.2.1)⟩), ups_ap, if_neg (fun q => h ⟨q.2.2, Or.inr (Or.inl q.2.1)⟩), ups_ap, if_neg (fun q => h ⟨q.2.2, Or.inl q.2.1⟩)]
    have e69 : linA A (i + 1) y z 69 (10 * (i + 1)) = y := by
      have := linA_69 (A := A) (gi := i + 1) (n := y) (rel := z)
      rw [h0] at this
      exact this
    refine K _ (hR.lin hi hm (fun κ h1 h2 => by rw [ups_o h1, ups_o h1, ups_o h1]) e2 (by rw [ups_ap, if_pos ⟨rfl, rfl, rfl⟩]) ⟨?_, ?_⟩ (fun k b h => rfl) (fun j hj => ?_)) (Nx_I (fun κ hκ => by rw [ups_o (by omega), ups_o (by omega), ups_o (by omega)])) (hV.lin hw h21 hi hm hy hy1 hy2 hf rfl (fun b => e2 9 b (by omega)))
    · rw [e69]
      show (if 2 = 2 ∧ 3 = 3 ∧ ω.2.1 i = ω.2.1 i then y else _) = y
      rw [if_pos ⟨rfl, rfl, rfl⟩]
    · rw [linA_70 h68]
      show (if 2 = 2 ∧ 4 = 4 ∧ ω.2.1 i = ω.2.1 i then z else _) = 0 ↔ _
      rw [if_pos ⟨rfl, rfl, rfl⟩]
      by_cases c : z = 0
      · rw [if_pos c]
        exact ⟨fun _ => by decide, fun _ => c⟩
      · rw [if_neg c]
        exact ⟨fun q => absurd q c, fun q => absurd rfl q⟩
    · have : j = 0 := by omega
      subst this
      exact g12 0 (Or.inr rfl)
  · have h68 : ¬ A 68 (i + 1) = 0 := by rw [hmn.1]; exact nIz h0 (by omega)
    have hz0 : ¬ nI (mnA A (i + 1)) = 0 := nIz h0 (by omega)
    have hgh := fun (Q : Option Value → jM → Prop) => GrpAt.height (sv := sv) (d := d) (t := t) (u := u) (Q := Q) (J := J) (hR.2.2.1.2.1 i hi) hmn.1 hmn.2
    have hj : jin (nI (mnA A (i + 1))) 10 = true := jin_nI (by omega) (by omega)
    have hc : (nI (mnA A (i + 1))).toNatClampNeg = mnA A (i + 1) := nI_clamp (by omega)
    have r5 : ∀ v, ups I 62 (mnA A (i + 1)) (ω.2.2.1 i) v 2 5 (ω.2.1 i) = nI (mnA A (i + 1)) := fun v => g8'
    simp only [s_X0_addLine_0, s_X0_addLine_0n, s_X0_addLine_0z, s_X0_addLine_1, s_X0_addLine_4, s_X0_addLine_4n, s_X0_addLine_4z, s_X0_addLine_5, s_X0_addLine_8, s_X0_addLine_9, s_X0_addLine_12, s_X0_addLine_13, s_X0_addLine_13n, s_X0_addLine_13z, s_X0_addLine_14, s_X0_addLine_17, s_X0_addLine_20, s_X0_addLine_20n, s_X0_addLine_20z, s_X0_addLine_21, s_X0_addLine_22, s_X0_addLine_25, s_X0_addLine_25n, s_X0_addLine_25z, s_X0_addLine_26, s_X0_addLine_27, s_X0_addLine_30, s_X0_addLine_33, s_X0_addLine_33n, s_X0_addLine_33z, s_X0_addLine_34, s_X0_addLine_37, s_X0_addLine_37n, s_X0_addLine_37z, s_X0_addLine_38, s_X0_addLine_41, s_X0_addLine_41n, s_X0_addLine_41z, s_X0_addLine_42, s_X0_addLine_45, s_X0_addLine_46, s_X0_addLine_47, s_X0_addLine_48, s_X0_addLine_48n, s_X0_addLine_48z, s_X0_addLine_49, s_X0_addLine_50, s_X0_addLine_53, s_X0_addLine_54, s_X0_addLine_55, s_X0_addLine_58, tl_some, tl_none, cv_int, cv_ref, cv_null, cv_long, cat_rf, jcv_nil, jcat_cons, jv_none, jv_int, jv_ref, jv_null, jw_rf, rf_some, rf_none, bz_0, bz_1, i1_0, i0_0, if_true, if_false, ite_self, List.nil_append, List.cons_append, Nat.reduceAdd, Nat.reduceLeDiff, Nat.zero_le, Nat.le_refl, and_self, and_true, true_and, not_true_eq_false, not_false_eq_true, reduceIte, g1, g2, g3, g4, g8', hofn, hlt, hz0, hgh, hj, hc, r5, hs]
    have e2 : ∀ k b, ¬ (b = ω.2.1 i ∧ (k = 3 ∨ k = 4 ∨ k = 5)) → ups (ups I 62 (mnA A (i + 1)) (ω.2.2.1 i) (lat A (i + 1) 0 (mnA A (i + 1) - 1) + y)) 2 5 (ω.2.1 i) (nI (mnA A (i + 1) + 1)) 2 k b = I 2 k b := fun k b h => by
      rw [ups_ap, if_neg (fun q => h ⟨q.2.2, Or.inr (Or.inr q.2.1)⟩), ups_o (by decide)]
    obtain ⟨k1, k2⟩ := g11 (by omega)
    refine K _ (hR.lin hi hm (fun κ h1 h2 => by rw [ups_o h1, ups_o h2]) e2 (by rw [ups_ap, if_pos ⟨rfl, rfl, rfl⟩]) ⟨?_, ?_⟩ (fun k b h => ?_) (fun j hj => ?_)) (Nx_I (fun κ hκ => by rw [ups_o (by omega), ups_o (by omega)])) (hV.lin hw h21 hi hm hy hy1 hy2 hf rfl (fun b => e2 9 b (by omega)))
    · rw [linA_o (by omega) (by omega) (by omega)]
      show ups _ 2 5 (ω.2.1 i) _ 2 3 (ω.2.1 i) = A 69 (10 * (i + 1))
      rw [ups_ap, if_neg (fun q => absurd q.2.1 (by decide)), ups_o (by decide)]
      exact k1
    · rw [linA_70n h68, ups_ap, if_neg (fun q => absurd q.2.1 (by decide)), ups_o (by decide)]
      exact k2
    · rw [ups_o (by decide), ups_ap, if_neg (fun q => h q.2.2)]
    · rw [ups_o (by decide), ups_ap]
      by_cases e : j = mnA A (i + 1)
      · obtain ⟨m, hm1⟩ : ∃ m, mnA A (i + 1) = m + 1 := ⟨mnA A (i + 1) - 1, by omega⟩
        rw [if_pos ⟨rfl, e, rfl⟩, e]
        have hl1 : lat (linA A (i + 1) y z) (i + 1) 0 m = lat A (i + 1) 0 m := lat_cg m (fun k hk1 hk2 => linA_o (by omega) (by omega) (by omega))
        have hl2 := linA_69 (A := A) (gi := i + 1) (n := y) (rel := z)
        rw [hm1] at hl2 ⊢
        show lat A (i + 1) 0 m + y = lat (linA A (i + 1) y z) (i + 1) 0 m + linA A (i + 1) y z 69 (10 * (i + 1) + (m + 1))
        rw [hl1, hl2]
      · rw [if_neg (fun q => e q.2.1), lat_cg (A := A) j (fun k hk1 hk2 => linA_o (by omega) (by omega) (by omega))]
        exact g12 j (Or.inl (by omega))
theorem c_line (hR : Rel sv ω t g I J P A T tb ub) (hV : Inv ω I A st) (hz : bz z)
    (K2 : ¬ isG A x → Q (some (.int (-2))) (tv t u g I J P))
    (K4 : isG A x → badL A x.toNatClampNeg y z → Q (some (.int (-4))) (tv t u g I J P))
    (K5 : isG A x → ¬ badL A x.toNatClampNeg y z → ¬ A 7 21 = 0 → Q (some (.int (-5))) (tv t u g I J P))
    (K1 : isG A x → ¬ badL A x.toNatClampNeg y z → A 7 21 = 0 → A 68 x.toNatClampNeg = 10 → Q (some (.int (-1))) (tv t u g I J P))
    (K0 : isG A x → ¬ badL A x.toNatClampNeg y z → A 7 21 = 0 → ¬ A 68 x.toNatClampNeg = 10 → ¬ fitA A x.toNatClampNeg y z → Q (some (.int 0)) (tv t u g I J P))
    (K : isG A x → ¬ badL A x.toNatClampNeg y z → A 7 21 = 0 → ¬ A 68 x.toNatClampNeg = 10 → fitA A x.toNatClampNeg y z → ∀ I', Rel sv ω t g I' J P (linA A x.toNatClampNeg y z) T tb ub → Nx t u g I J P tb ub t u g I' J P tb ub → Inv ω I' (linA A x.toNatClampNeg y z) st → Q (some (.int (nI (mnA A x.toNatClampNeg + 1)))) (tv t u g I' J P)) :
    Ev sv (d + 4) (13, 0, [some (.ref (ω.1 0)), some (.int x), some (.int y), some (.int z), none, none], []) (tv t u g I J P) Q := by
  have c1 := hR.1.1
  have c5 := hR.1.2.2.2.2.1
  have c9 := hR.1.2.2.2.2.2.2.2.2.1
  have hw := hR.2.2.2.2.2.2.2.1
  have h20 := hw.1
  have hgn := fun (Q : Option Value → jM → Prop) => c_groupNumbered (Q := Q) (sv := sv) (d := d) (u := u) (x := x) hR
  by_cases hx : isG A x
  · have hr := nI_range hx.1 (by rw [← h20.1]; exact hx.2) (by omega)
    obtain ⟨i, hi⟩ : ∃ i, x.toNatClampNeg = i + 1 := ⟨x.toNatClampNeg - 1, by omega⟩
    have hgi : i < ngA A := by omega
    have ei : x.toNatClampNeg - 1 = i := by omega
    rw [hi] at K4 K5 K1 K0 K
    have g1 := (hR.2.2.1.2.1 i hgi).1
    have g8 := (hR.2.2.1.2.1 i hgi).2.2.2.2.2.2.2.1
    have hmn := hw.2.2.2.1 (i + 1)
    have hcf := fun (Q : Option Value → jM → Prop) => c_fits (Q := Q) (sv := sv) (d := d + 1) (u := u) (y := y) (z := z) hR hgi
    by_cases hbad : badL A (i + 1) y z
    · have B4 := K4 hx hbad
      rcases hz with rfl | rfl
      · by_cases q1 : y < 1
        · simp only [s_X4_line_0, s_X4_line_0n, s_X4_line_0z, s_X4_line_1, s_X4_line_2, s_X4_line_5, s_X4_line_5n, s_X4_line_5z, s_X4_line_7, s_X4_line_7n, s_X4_line_7z, s_X4_line_9n, s_X4_line_9, s_X4_line_9z, s_X4_line_12, s_X4_line_14, s_X4_line_15, s_X4_line_16, s_X4_line_19, s_X4_line_21, s_X4_line_24, s_X4_line_24n, s_X4_line_24z, s_X4_line_25, s_X4_line_28, s_X4_line_30, s_X4_line_31, s_X4_line_32, s_X4_line_35, s_X4_line_36, s_X4_line_38, s_X4_line_41, s_X4_line_42, s_X4_line_45, s_X4_line_45n, s_X4_line_45z, s_X4_line_47, s_X4_line_50, s_X4_line_53, s_X4_line_55, tl_some, tl_none, cv_int, cv_ref, cv_null, cv_long, cat_rf, jcv_nil, jcat_cons, jv_none, jv_int, jv_ref, jv_null, jw_rf, rf_some, rf_none, bz_0, bz_1, i1_0, i0_0, if_true, if_false, ite_self, List.nil_append, List.cons_append, Nat.reduceAdd, Nat.reduceLeDiff, Nat.zero_le, Nat.le_refl, and_self, and_true, true_and, not_true_eq_false, not_false_eq_true, reduceIte, c1, hgn, if_pos (c := isG A x) hx, ei, c5, q1]
          exact B4
        · by_cases q2 : A 7 1 < y
          · simp only [s_X4_line_0, s_X4_line_0n, s_X4_line_0z, s_X4_line_1, s_X4_line_2, s_X4_line_5, s_X4_line_5n, s_X4_line_5z, s_X4_line_7, s_X4_line_7n, s_X4_line_7z, s_X4_line_9n, s_X4_line_9, s_X4_line_9z, s_X4_line_12, s_X4_line_14, s_X4_line_15, s_X4_line_16, s_X4_line_19, s_X4_line_21, s_X4_line_24, s_X4_line_24n, s_X4_line_24z, s_X4_line_25, s_X4_line_28, s_X4_line_30, s_X4_line_31, s_X4_line_32, s_X4_line_35, s_X4_line_36, s_X4_line_38, s_X4_line_41, s_X4_line_42, s_X4_line_45, s_X4_line_45n, s_X4_line_45z, s_X4_line_47, s_X4_line_50, s_X4_line_53, s_X4_line_55, tl_some, tl_none, cv_int, cv_ref, cv_null, cv_long, cat_rf, jcv_nil, jcat_cons, jv_none, jv_int, jv_ref, jv_null, jw_rf, rf_some, rf_none, bz_0, bz_1, i1_0, i0_0, if_true, if_false, ite_self, List.nil_append, List.cons_append, Nat.reduceAdd, Nat.reduceLeDiff, Nat.zero_le, Nat.le_refl, and_self, and_true, true_and, not_true_eq_false, not_false_eq_true, reduceIte, c1, hgn, if_pos (c := isG A x) hx, ei, c5, q1, q2]
            exact B4
          · have q3 : 0 < A 68 (i + 1) := by
              rcases hbad with h | h | h
              · exact absurd h q1
              · rw [if_pos rfl] at h; exact absurd h q2
              · exact h.2
            simp only [s_X4_line_0, s_X4_line_0n, s_X4_line_0z, s_X4_line_1, s_X4_line_2, s_X4_line_5, s_X4_line_5n, s_X4_line_5z, s_X4_line_7, s_X4_line_7n, s_X4_line_7z, s_X4_line_9n, s_X4_line_9, s_X4_line_9z, s_X4_line_12, s_X4_line_14, s_X4_line_15, s_X4_line_16, s_X4_line_19, s_X4_line_21, s_X4_line_24, s_X4_line_24n, s_X4_line_24z, s_X4_line_25, s_X4_line_28, s_X4_line_30, s_X4_line_31, s_X4_line_32, s_X4_line_35, s_X4_line_36, s_X4_line_38, s_X4_line_41, s_X4_line_42, s_X4_line_45, s_X4_line_45n, s_X4_line_45z, s_X4_line_47, s_X4_line_50, s_X4_line_53, s_X4_line_55, tl_some, tl_none, cv_int, cv_ref, cv_null, cv_long, cat_rf, jcv_nil, jcat_cons, jv_none, jv_int, jv_ref, jv_null, jw_rf, rf_some, rf_none, bz_0, bz_1, i1_0, i0_0, if_true, if_false, ite_self, List.nil_append, List.cons_append, Nat.reduceAdd, Nat.reduceLeDiff, Nat.zero_le, Nat.le_refl, and_self, and_true, true_and, not_true_eq_false, not_false_eq_true, reduceIte, c1, hgn, if_pos (c := isG A x) hx, ei, c5, q1, q2, g1, g8, q3]
            exact B4
      · by_cases q1 : y < 1
        · simp only [s_X4_line_0, s_X4_line_0n, s_X4_line_0z, s_X4_line_1, s_X4_line_2, s_X4_line_5, s_X4_line_5n, s_X4_line_5z, s_X4_line_7, s_X4_line_7n, s_X4_line_7z, s_X4_line_9n, s_X4_line_9, s_X4_line_9z, s_X4_line_12, s_X4_line_14, s_X4_line_15, s_X4_line_16, s_X4_line_19, s_X4_line_21, s_X4_line_24, s_X4_line_24n, s_X4_line_24z, s_X4_line_25, s_X4_line_28, s_X4_line_30, s_X4_line_31, s_X4_line_32, s_X4_line_35, s_X4_line_36, s_X4_line_38, s_X4_line_41, s_X4_line_42, s_X4_line_45, s_X4_line_45n, s_X4_line_45z, s_X4_line_47, s_X4_line_50, s_X4_line_53, s_X4_line_55, tl_some, tl_none, cv_int, cv_ref, cv_null, cv_long, cat_rf, jcv_nil, jcat_cons, jv_none, jv_int, jv_ref, jv_null, jw_rf, rf_some, rf_none, bz_0, bz_1, i1_0, i0_0, if_true, if_false, ite_self, List.nil_append, List.cons_append, Nat.reduceAdd, Nat.reduceLeDiff, Nat.zero_le, Nat.le_refl, and_self, and_true, true_and, not_true_eq_false, not_false_eq_true, reduceIte, c1, hgn, if_pos (c := isG A x) hx, ei, q1]
          exact B4
        · have q2 : (20 : Int32) < y := by
            rcases hbad with h | h | h
            · exact absurd h q1
            · rw [if_neg (by decide)] at h; exact h
            · exact absurd h.1 (by decide)
          simp only [s_X4_line_0, s_X4_line_0n, s_X4_line_0z, s_X4_line_1, s_X4_line_2, s_X4_line_5, s_X4_line_5n, s_X4_line_5z, s_X4_line_7, s_X4_line_7n, s_X4_line_7z, s_X4_line_9n, s_X4_line_9, s_X4_line_9z, s_X4_line_12, s_X4_line_14, s_X4_line_15, s_X4_line_16, s_X4_line_19, s_X4_line_21, s_X4_line_24, s_X4_line_24n, s_X4_line_24z, s_X4_line_25, s_X4_line_28, s_X4_line_30, s_X4_line_31, s_X4_line_32, s_X4_line_35, s_X4_line_36, s_X4_line_38, s_X4_line_41, s_X4_line_42, s_X4_line_45, s_X4_line_45n, s_X4_line_45z, s_X4_line_47, s_X4_line_50, s_X4_line_53, s_X4_line_55, tl_some, tl_none, cv_int, cv_ref, cv_null, cv_long, cat_rf, jcv_nil, jcat_cons, jv_none, jv_int, jv_ref, jv_null, jw_rf, rf_some, rf_none, bz_0, bz_1, i1_0, i0_0, if_true, if_false, ite_self, List.nil_append, List.cons_append, Nat.reduceAdd, Nat.reduceLeDiff, Nat.zero_le, Nat.le_refl, and_self, and_true, true_and, not_true_eq_false, not_false_eq_true, reduceIte, c1, hgn, if_pos (c := isG A x) hx, ei, q1, q2]
          exact B4
    · have q1 : ¬ y < 1 := fun q => hbad (Or.inl q)
      have q2 : ¬ (if z = 0 then A 7 1 else 20) < y := fun q => hbad (Or.inr (Or.inl q))
      have q3 : z = 0 → ¬ 0 < A 68 (i + 1) := fun e q => hbad (Or.inr (Or.inr ⟨e, q⟩))
      -- to the second question
      have S : ∃ l5 : Option Value, Ev sv (d + 4) (13, 0, [some (.ref (ω.1 0)), some (.int x), some (.int y), some (.int z), none, none], []) (tv t u g I J P) Q ↔ Ev sv (d + 4) (13, 56, [some (.ref (ω.1 0)), some (.int x), some (.int y), some (.int z), some (.ref (ω.2.1 i)), l5], []) (tv t u g I J P) Q := by
        rcases hz with rfl | rfl
        · have q3 := q3 rfl
          rw [if_pos rfl] at q2
          refine ⟨some (.int (A 7 1)), ?_⟩
          simp only [s_X4_line_0, s_X4_line_0n, s_X4_line_0z, s_X4_line_1, s_X4_line_2, s_X4_line_5, s_X4_line_5n, s_X4_line_5z, s_X4_line_7, s_X4_line_7n, s_X4_line_7z, s_X4_line_9n, s_X4_line_9, s_X4_line_9z, s_X4_line_12, s_X4_line_14, s_X4_line_15, s_X4_line_16, s_X4_line_19, s_X4_line_21, s_X4_line_24, s_X4_line_24n, s_X4_line_24z, s_X4_line_25, s_X4_line_28, s_X4_line_30, s_X4_line_31, s_X4_line_32, s_X4_line_35, s_X4_line_36, s_X4_line_38, s_X4_line_41, s_X4_line_42, s_X4_line_45, s_X4_line_45n, s_X4_line_45z, s_X4_line_47, s_X4_line_50, tl_some, tl_none, cv_int, cv_ref, cv_null, cv_long, cat_rf, jcv_nil, jcat_cons, jv_none, jv_int, jv_ref, jv_null, jw_rf, rf_some, rf_none, bz_0, bz_1, i1_0, i0_0, if_true, if_false, ite_self, List.nil_append, List.cons_append, Nat.reduceAdd, Nat.reduceLeDiff, Nat.zero_le, Nat.le_refl, and_self, and_true, true_and, not_true_eq_false, not_false_eq_true, reduceIte, c1, hgn, if_pos (c := isG A x) hx, ei, c5, q1, q2, g1, g8, q3]
        · rw [if_neg (by decide)] at q2
          refine ⟨some (.int 20), ?_⟩
          simp only [s_X4_line_0, s_X4_line_0n, s_X4_line_0z, s_X4_line_1, s_X4_line_2, s_X4_line_5, s_X4_line_5n, s_X4_line_5z, s_X4_line_7, s_X4_line_7n, s_X4_line_7z, s_X4_line_9n, s_X4_line_9, s_X4_line_9z, s_X4_line_12, s_X4_line_14, s_X4_line_15, s_X4_line_16, s_X4_line_19, s_X4_line_21, s_X4_line_24, s_X4_line_24n, s_X4_line_24z, s_X4_line_25, s_X4_line_28, s_X4_line_30, s_X4_line_31, s_X4_line_32, s_X4_line_35, s_X4_line_36, s_X4_line_38, s_X4_line_41, s_X4_line_42, s_X4_line_45, s_X4_line_45n, s_X4_line_45z, s_X4_line_47, s_X4_line_50, tl_some, tl_none, cv_int, cv_ref, cv_null, cv_long, cat_rf, jcv_nil, jcat_cons, jv_none, jv_int, jv_ref, jv_null, jw_rf, rf_some, rf_none, bz_0, bz_1, i1_0, i0_0, if_true, if_false, ite_self, List.nil_append, List.cons_append, Nat.reduceAdd, Nat.reduceLeDiff, Nat.zero_le, Nat.le_refl, and_self, and_true, true_and, not_true_eq_false, not_false_eq_true, reduceIte, c1, hgn, if_pos (c := isG A x) hx, ei, q1, q2]
      obtain ⟨l5, S⟩ := S
      refine S.mpr ?_
      by_cases h21 : A 7 21 = 0
      · by_cases h10 : A 68 (i + 1) = 10
        · have hlt : ¬ (10 : Int32) < 10 := by decide
          simp only [s_X4_line_56, s_X4_line_56n, s_X4_line_56z, s_X4_line_57, s_X4_line_60, s_X4_line_63, s_X4_line_65, s_X4_line_66, s_X4_line_66n, s_X4_line_66z, s_X4_line_68, s_X4_line_71, s_X4_line_73, s_X4_line_76, s_X4_line_77, tl_some, tl_none, cv_int, cv_ref, cv_null, cv_long, cat_rf, jcv_nil, jcat_cons, jv_none, jv_int, jv_ref, jv_null, jw_rf, rf_some, rf_none, bz_0, bz_1, i1_0, i0_0, if_true, if_false, ite_self, List.nil_append, List.cons_append, Nat.reduceAdd, Nat.reduceLeDiff, Nat.zero_le, Nat.le_refl, and_self, and_true, true_and, not_true_eq_false, not_false_eq_true, reduceIte, c1, c9, h21, g1, g8, h10, hlt]
          exact K1 hx hbad h21 h10
        · have hm : mnA A (i + 1) < 10 := by
            by_cases e : mnA A (i + 1) = 10
            · rw [hmn.1, e] at h10; exact absurd rfl h10
            · omega
          have hlt : A 68 (i + 1) < 10 := by rw [hmn.1]; exact nI_lt (b := 10) hm (by omega)
          have hy0 := i32_1 q1
          have hyo := nIo (i32_neg hy0)
          obtain ⟨p0, f0, e0, hp1, hp2, -⟩ := hV.1.1
          have hyr : 1 ≤ y.toNatClampNeg ∧ y.toNatClampNeg ≤ 100 := by
            by_cases c : z = 0
            · rw [if_pos c, hp1] at q2
              have := nI_range hy0 q2 (by omega)
              omega
            · rw [if_neg c] at q2
              have := nI_range (n := 20) hy0 q2 (by omega)
              omega
          have hsame : fitA A (i + 1) y z ↔ fitC A (i + 1) y z := by
            have := fit_same hw hV.1 hV.2.2.1.2 (gi := i + 1) (by omega) (by omega) hyr.1 hyr.2 (z := z)
            rw [← hyo] at this
            exact this
          by_cases hf : fitA A (i + 1) y z
          · simp only [s_X4_line_56, s_X4_line_56n, s_X4_line_56z, s_X4_line_57, s_X4_line_60, s_X4_line_63, s_X4_line_65, s_X4_line_66, s_X4_line_66n, s_X4_line_66z, s_X4_line_68, s_X4_line_71, s_X4_line_73, s_X4_line_76, s_X4_line_77, s_X4_line_78, s_X4_line_78n, s_X4_line_78z, s_X4_line_79, s_X4_line_79n, s_X4_line_79z, s_X4_line_81, s_X4_line_82, s_X4_line_83, s_X4_line_86, s_X4_line_89, s_X4_line_90, s_X4_line_91, s_X4_line_91n, s_X4_line_91z, s_X4_line_93, s_X4_line_94, s_X4_line_95, tl_some, tl_none, cv_int, cv_ref, cv_null, cv_long, cat_rf, jcv_nil, jcat_cons, jv_none, jv_int, jv_ref, jv_null, jw_rf, rf_some, rf_none, bz_0, bz_1, i1_0, i0_0, if_true, if_false, ite_self, List.nil_append, List.cons_append, Nat.reduceAdd, Nat.reduceLeDiff, Nat.zero_le, Nat.le_refl, and_self, and_true, true_and, not_true_eq_false, not_false_eq_true, reduceIte, c1, c9, h21, g1, g8, hlt, hcf, if_pos (c := fitC A (i + 1) y z) (hsame.mp hf)]
            refine c_addLine (d := d + 2) hR hV h21 hgi hm hyo hyr.1 hyr.2 hz hf (fun I' r1 r2 r3 => ?_)
            have g1' := (r1.2.2.1.2.1 i (by
              have : ngA (linA A (i + 1) y z) = ngA A := by unfold ngA; rw [linA_o (by omega) (by omega) (by omega)]; rfl
              rw [this]; exact hgi)).1
            have g8' := (r1.2.2.1.2.1 i (by
              have : ngA (linA A (i + 1) y z) = ngA A := by unfold ngA; rw [linA_o (by omega) (by omega) (by omega)]; rfl
              rw [this]; exact hgi)).2.2.2.2.2.2.2.1
            rw [linA_68] at g8'
            simp only [s_X4_line_98, s_X4_line_98n, s_X4_line_98z, s_X4_line_100, s_X4_line_103, tl_some, tl_none, cv_int, cv_ref, cv_null, cv_long, cat_rf, jcv_nil, jcat_cons, jv_none, jv_int, jv_ref, jv_null, jw_rf, rf_some, rf_none, bz_0, bz_1, i1_0, i0_0, if_true, if_false, ite_self, List.nil_append, List.cons_append, Nat.reduceAdd, Nat.reduceLeDiff, Nat.zero_le, Nat.le_refl, and_self, and_true, true_and, not_true_eq_false, not_false_eq_true, reduceIte, g1', g8']
            exact K hx hbad h21 h10 hf I' r1 r2 r3
          · simp only [s_X4_line_56, s_X4_line_56n, s_X4_line_56z, s_X4_line_57, s_X4_line_60, s_X4_line_63, s_X4_line_65, s_X4_line_66, s_X4_line_66n, s_X4_line_66z, s_X4_line_68, s_X4_line_71, s_X4_line_73, s_X4_line_76, s_X4_line_77, s_X4_line_78, s_X4_line_78n, s_X4_line_78z, s_X4_line_79, s_X4_line_79n, s_X4_line_79z, s_X4_line_81, s_X4_line_82, s_X4_line_83, s_X4_line_86, s_X4_line_89, s_X4_line_90, tl_some, tl_none, cv_int, cv_ref, cv_null, cv_long, cat_rf, jcv_nil, jcat_cons, jv_none, jv_int, jv_ref, jv_null, jw_rf, rf_some, rf_none, bz_0, bz_1, i1_0, i0_0, if_true, if_false, ite_self, List.nil_append, List.cons_append, Nat.reduceAdd, Nat.reduceLeDiff, Nat.zero_le, Nat.le_refl, and_self, and_true, true_and, not_true_eq_false, not_false_eq_true, reduceIte, c1, c9, h21, g1, g8, hlt, hcf, if_neg (c := fitC A (i + 1) y z) (fun q => hf (hsame.mpr q))]
            exact K0 hx hbad h21 h10 hf
      · simp only [s_X4_line_56, s_X4_line_56n, s_X4_line_56z, s_X4_line_57, s_X4_line_60, s_X4_line_63, s_X4_line_65, tl_some, tl_none, cv_int, cv_ref, cv_null, cv_long, cat_rf, jcv_nil, jcat_cons, jv_none, jv_int, jv_ref, jv_null, jw_rf, rf_some, rf_none, bz_0, bz_1, i1_0, i0_0, if_true, if_false, ite_self, List.nil_append, List.cons_append, Nat.reduceAdd, Nat.reduceLeDiff, Nat.zero_le, Nat.le_refl, and_self, and_true, true_and, not_true_eq_false, not_false_eq_true, reduceIte, c1, c9, h21]
        exact K5 hx hbad h21
  · simp only [s_X4_line_0, s_X4_line_0n, s_X4_line_0z, s_X4_line_1, s_X4_line_2, s_X4_line_5, s_X4_line_5n, s_X4_line_5z, s_X4_line_7, s_X4_line_7n, s_X4_line_7z, s_X4_line_9n, s_X4_line_9, s_X4_line_9z, s_X4_line_12, s_X4_line_14, tl_some, tl_none, cv_int, cv_ref, cv_null, cv_long, cat_rf, jcv_nil, jcat_cons, jv_none, jv_int, jv_ref, jv_null, jw_rf, rf_some, rf_none, bz_0, bz_1, i1_0, i0_0, if_true, if_false, ite_self, List.nil_append, List.cons_append, Nat.reduceAdd, Nat.reduceLeDiff, Nat.zero_le, Nat.le_refl, and_self, and_true, true_and, not_true_eq_false, not_false_eq_true, reduceIte, c1, hgn, if_neg (c := isG A x) hx]
    exact K2 hx
end
