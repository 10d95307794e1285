/-- what a call leaves, and how much it may make -/
def Ny (t u : Nat) (g : jG) (I : tI) (J : tJ) (P : tP) (tb ub : Nat) (t' u' : Nat) (g' : jG) (I' : tI) (J' : tJ) (P' : tP) (tb' ub' : Nat) : Prop := gle g g' ∧ (∀ κ, κ = 7 ∨ 64 ≤ κ → I' κ = I κ ∧ J' κ = J κ ∧ P' κ = P κ) ∧ t ≤ t' ∧ u ≤ u' ∧ t' + tb ≤ t + tb' + 3 ∧ u' + ub ≤ u + ub' + 200
theorem Nx.ny {t u : Nat} {g : jG} {I : tI} {J : tJ} {P : tP} {tb ub : Nat} {t' u' : Nat} {g' : jG} {I' : tI} {J' : tJ} {P' : tP} {tb' ub' : Nat} (h : Nx t u g I J P tb ub t' u' g' I' J' P' tb' ub') : Ny t u g I J P tb ub t' u' g' I' J' P' tb' ub' := ⟨h.1, h.2.1, h.2.2.1, h.2.2.2.1, by have := h.2.2.2.2.1; omega, by have := h.2.2.2.2.2; omega⟩
theorem kd7_of {x : Int32} (h0 : ¬ x < 0) (h6 : ¬ 6 < x) : kd7 x := by
  have e := nIo h0
  have h6' : ¬ nI 6 < x := h6
  rw [e] at h6' ⊢
  have hb : x.toNatClampNeg < 2 ^ 31 := by
    have := clamp_pos h0
    have := x.toInt_lt
    omega
  have : x.toNatClampNeg ≤ 6 := by
    by_cases c : x.toNatClampNeg ≤ 6
    · exact c
    · exact absurd (nI_lt (a := 6) (by omega) hb) h6'
  generalize x.toNatClampNeg = m at this
  have hm : m = 0 ∨ m = 1 ∨ m = 2 ∨ m = 3 ∨ m = 4 ∨ m = 5 ∨ m = 6 := by omega
  rcases hm with h | h | h | h | h | h | h <;> subst h <;> simp [kd7, nI]
section
variable {sv : Nat → Value} {d t u : Nat} {Q : Option Value → jM → Prop} {g : jG} {I I' : tI} {J : tJ} {P : tP} {A B : Nat → Nat → Int32} {T T' : Nat → Int64} {ω : Wd} {tb ub st : Nat} {x y z : Int32}
theorem c_isKind (hR : Rel sv ω t g I J P A T tb ub) : Ev sv d (28, 0, [some (.ref (ω.1 0)), some (.int x), some (.int y), none], []) (tv t u g I J P) Q ↔ if badG A x y then Q (some (.int 0)) (tv t u g I J P) else Q (some (.int 1)) (tv t u g I J P) := by
  have c1 := hR.1.1
  have c8 := hR.1.2.2.2.2.2.2.2.1
  by_cases h0 : x < 0
  · rw [if_pos (c := badG A x y) (Or.inl h0)]
    simp only [s_X4_isKindOfLevel_0, s_X4_isKindOfLevel_1, s_X4_isKindOfLevel_4, s_X4_isKindOfLevel_5, s_X4_isKindOfLevel_7, s_X4_isKindOfLevel_10, s_X4_isKindOfLevel_11, s_X4_isKindOfLevel_12, s_X4_isKindOfLevel_13, s_X4_isKindOfLevel_14, s_X4_isKindOfLevel_17, s_X4_isKindOfLevel_18, s_X4_isKindOfLevel_19, s_X4_isKindOfLevel_22, s_X4_isKindOfLevel_23, s_X4_isKindOfLevel_26, s_X4_isKindOfLevel_27, s_X4_isKindOfLevel_28, s_X4_isKindOfLevel_29, s_X4_isKindOfLevel_32, s_X4_isKindOfLevel_33, s_X4_isKindOfLevel_34, s_X4_isKindOfLevel_37, s_X4_isKindOfLevel_37n, s_X4_isKindOfLevel_37z, s_X4_isKindOfLevel_38, s_X4_isKindOfLevel_41, s_X4_isKindOfLevel_44, s_X4_isKindOfLevel_45, s_X4_isKindOfLevel_48, s_X4_isKindOfLevel_49, s_X4_isKindOfLevel_52, s_X4_isKindOfLevel_53, tl_some, tl_none, cv_int, cv_ref, cv_null, cv_long, cat_rf, jcv_nil, jcat_cons, jv_none, jv_int, jv_ref, jv_null, jw_rf, rf_some, rf_none, bz_0, bz_1, i1_0, i0_0, if_true, if_false, ite_self, List.nil_append, List.cons_append, Nat.reduceAdd, Nat.reduceLeDiff, Nat.zero_le, Nat.le_refl, and_self, and_true, true_and, not_true_eq_false, not_false_eq_true, reduceIte, h0]
  by_cases h6 : 6 < x
  · rw [if_pos (c := badG A x y) (Or.inr (Or.inl h6))]
    simp only [s_X4_isKindOfLevel_0, s_X4_isKindOfLevel_1, s_X4_isKindOfLevel_4, s_X4_isKindOfLevel_5, s_X4_isKindOfLevel_7, s_X4_isKindOfLevel_10, s_X4_isKindOfLevel_11, s_X4_isKindOfLevel_12, s_X4_isKindOfLevel_13, s_X4_isKindOfLevel_14, s_X4_isKindOfLevel_17, s_X4_isKindOfLevel_18, s_X4_isKindOfLevel_19, s_X4_isKindOfLevel_22, s_X4_isKindOfLevel_23, s_X4_isKindOfLevel_26, s_X4_isKindOfLevel_27, s_X4_isKindOfLevel_28, s_X4_isKindOfLevel_29, s_X4_isKindOfLevel_32, s_X4_isKindOfLevel_33, s_X4_isKindOfLevel_34, s_X4_isKindOfLevel_37, s_X4_isKindOfLevel_37n, s_X4_isKindOfLevel_37z, s_X4_isKindOfLevel_38, s_X4_isKindOfLevel_41, s_X4_isKindOfLevel_44, s_X4_isKindOfLevel_45, s_X4_isKindOfLevel_48, s_X4_isKindOfLevel_49, s_X4_isKindOfLevel_52, s_X4_isKindOfLevel_53, tl_some, tl_none, cv_int, cv_ref, cv_null, cv_long, cat_rf, jcv_nil, jcat_cons, jv_none, jv_int, jv_ref, jv_null, jw_rf, rf_some, rf_none, bz_0, bz_1, i1_0, i0_0, if_true, if_false, ite_self, List.nil_append, List.cons_append, Nat.reduceAdd, Nat.reduceLeDiff, Nat.zero_le, Nat.le_refl, and_self, and_true, true_and, not_true_eq_false, not_false_eq_true, reduceIte, h0, h6]
  by_cases hy : y < 0
  · rw [if_pos (c := badG A x y) (Or.inr (Or.inr (Or.inl hy)))]
    by_cases h2 : x = 2
    · have e2 : ¬ (6 : Int32) < 2 := by decide
      have e0 : ¬ (2 : Int32) < 0 := by decide
      simp only [s_X4_isKindOfLevel_0, s_X4_isKindOfLevel_1, s_X4_isKindOfLevel_4, s_X4_isKindOfLevel_5, s_X4_isKindOfLevel_7, s_X4_isKindOfLevel_10, s_X4_isKindOfLevel_11, s_X4_isKindOfLevel_12, s_X4_isKindOfLevel_13, s_X4_isKindOfLevel_14, s_X4_isKindOfLevel_17, s_X4_isKindOfLevel_18, s_X4_isKindOfLevel_19, s_X4_isKindOfLevel_22, s_X4_isKindOfLevel_23, s_X4_isKindOfLevel_26, s_X4_isKindOfLevel_27, s_X4_isKindOfLevel_28, s_X4_isKindOfLevel_29, s_X4_isKindOfLevel_32, s_X4_isKindOfLevel_33, s_X4_isKindOfLevel_34, s_X4_isKindOfLevel_37, s_X4_isKindOfLevel_37n, s_X4_isKindOfLevel_37z, s_X4_isKindOfLevel_38, s_X4_isKindOfLevel_41, s_X4_isKindOfLevel_44, s_X4_isKindOfLevel_45, s_X4_isKindOfLevel_48, s_X4_isKindOfLevel_49, s_X4_isKindOfLevel_52, s_X4_isKindOfLevel_53, tl_some, tl_none, cv_int, cv_ref, cv_null, cv_long, cat_rf, jcv_nil, jcat_cons, jv_none, jv_int, jv_ref, jv_null, jw_rf, rf_some, rf_none, bz_0, bz_1, i1_0, i0_0, if_true, if_false, ite_self, List.nil_append, List.cons_append, Nat.reduceAdd, Nat.reduceLeDiff, Nat.zero_le, Nat.le_refl, and_self, and_true, true_and, not_true_eq_false, not_false_eq_true, reduceIte, h2, e0, e2, hy]
    · by_cases h4 : x = 4
      · have e2 : ¬ (6 : Int32) < 4 := by decide
        have e0 : ¬ (4 : Int32) < 0 := by decide
        have e4 : ¬ (4 : Int32) = 2 := by decide
        simp only [s_X4_isKindOfLevel_0, s_X4_isKindOfLevel_1, s_X4_isKindOfLevel_4, s_X4_isKindOfLevel_5, s_X4_isKindOfLevel_7, s_X4_isKindOfLevel_10, s_X4_isKindOfLevel_11, s_X4_isKindOfLevel_12, s_X4_isKindOfLevel_13, s_X4_isKindOfLevel_14, s_X4_isKindOfLevel_17, s_X4_isKindOfLevel_18, s_X4_isKindOfLevel_19, s_X4_isKindOfLevel_22, s_X4_isKindOfLevel_23, s_X4_isKindOfLevel_26, s_X4_isKindOfLevel_27, s_X4_isKindOfLevel_28, s_X4_isKindOfLevel_29, s_X4_isKindOfLevel_32, s_X4_isKindOfLevel_33, s_X4_isKindOfLevel_34, s_X4_isKindOfLevel_37, s_X4_isKindOfLevel_37n, s_X4_isKindOfLevel_37z, s_X4_isKindOfLevel_38, s_X4_isKindOfLevel_41, s_X4_isKindOfLevel_44, s_X4_isKindOfLevel_45, s_X4_isKindOfLevel_48, s_X4_isKindOfLevel_49, s_X4_isKindOfLevel_52, s_X4_isKindOfLevel_53, tl_some, tl_none, cv_int, cv_ref, cv_null, cv_long, cat_rf, jcv_nil, jcat_cons, jv_none, jv_int, jv_ref, jv_null, jw_rf, rf_some, rf_none, bz_0, bz_1, i1_0, i0_0, if_true, if_false, ite_self, List.nil_append, List.cons_append, Nat.reduceAdd, Nat.reduceLeDiff, Nat.zero_le, Nat.le_refl, and_self, and_true, true_and, not_true_eq_false, not_false_eq_true, reduceIte, h4, e0, e2, e4, hy]
      · simp only [s_X4_isKindOfLevel_0, s_X4_isKindOfLevel_1, s_X4_isKindOfLevel_4, s_X4_isKindOfLevel_5, s_X4_isKindOfLevel_7, s_X4_isKindOfLevel_10, s_X4_isKindOfLevel_11, s_X4_isKindOfLevel_12, s_X4_isKindOfLevel_13, s_X4_isKindOfLevel_14, s_X4_isKindOfLevel_17, s_X4_isKindOfLevel_18, s_X4_isKindOfLevel_19, s_X4_isKindOfLevel_22, s_X4_isKindOfLevel_23, s_X4_isKindOfLevel_26, s_X4_isKindOfLevel_27, s_X4_isKindOfLevel_28, s_X4_isKindOfLevel_29, s_X4_isKindOfLevel_32, s_X4_isKindOfLevel_33, s_X4_isKindOfLevel_34, s_X4_isKindOfLevel_37, s_X4_isKindOfLevel_37n, s_X4_isKindOfLevel_37z, s_X4_isKindOfLevel_38, s_X4_isKindOfLevel_41, s_X4_isKindOfLevel_44, s_X4_isKindOfLevel_45, s_X4_isKindOfLevel_48, s_X4_isKindOfLevel_49, s_X4_isKindOfLevel_52, s_X4_isKindOfLevel_53, tl_some, tl_none, cv_int, cv_ref, cv_null, cv_long, cat_rf, jcv_nil, jcat_cons, jv_none, jv_int, jv_ref, jv_null, jw_rf, rf_some, rf_none, bz_0, bz_1, i1_0, i0_0, if_true, if_false, ite_self, List.nil_append, List.cons_append, Nat.reduceAdd, Nat.reduceLeDiff, Nat.zero_le, Nat.le_refl, and_self, and_true, true_and, not_true_eq_false, not_false_eq_true, reduceIte, h0, h6, h2, h4, hy]
  by_cases hc : x = 2 ∨ x = 4
  · by_cases hl : A 7 4 < y
    · rw [if_pos (c := badG A x y) (Or.inr (Or.inr (Or.inr (by rw [if_pos hc]; exact hl))))]
      rcases hc with h2 | h4
      · have e2 : ¬ (6 : Int32) < 2 := by decide
        have e0 : ¬ (2 : Int32) < 0 := by decide
        simp only [s_X4_isKindOfLevel_0, s_X4_isKindOfLevel_1, s_X4_isKindOfLevel_4, s_X4_isKindOfLevel_5, s_X4_isKindOfLevel_7, s_X4_isKindOfLevel_10, s_X4_isKindOfLevel_11, s_X4_isKindOfLevel_12, s_X4_isKindOfLevel_13, s_X4_isKindOfLevel_14, s_X4_isKindOfLevel_17, s_X4_isKindOfLevel_18, s_X4_isKindOfLevel_19, s_X4_isKindOfLevel_22, s_X4_isKindOfLevel_23, s_X4_isKindOfLevel_26, s_X4_isKindOfLevel_27, s_X4_isKindOfLevel_28, s_X4_isKindOfLevel_29, s_X4_isKindOfLevel_32, s_X4_isKindOfLevel_33, s_X4_isKindOfLevel_34, s_X4_isKindOfLevel_37, s_X4_isKindOfLevel_37n, s_X4_isKindOfLevel_37z, s_X4_isKindOfLevel_38, s_X4_isKindOfLevel_41, s_X4_isKindOfLevel_44, s_X4_isKindOfLevel_45, s_X4_isKindOfLevel_48, s_X4_isKindOfLevel_49, s_X4_isKindOfLevel_52, s_X4_isKindOfLevel_53, tl_some, tl_none, cv_int, cv_ref, cv_null, cv_long, cat_rf, jcv_nil, jcat_cons, jv_none, jv_int, jv_ref, jv_null, jw_rf, rf_some, rf_none, bz_0, bz_1, i1_0, i0_0, if_true, if_false, ite_self, List.nil_append, List.cons_append, Nat.reduceAdd, Nat.reduceLeDiff, Nat.zero_le, Nat.le_refl, and_self, and_true, true_and, not_true_eq_false, not_false_eq_true, reduceIte, h2, e0, e2, hy, c1, c8, hl]
      · have e2 : ¬ (6 : Int32) < 4 := by decide
        have e0 : ¬ (4 : Int32) < 0 := by decide
        have e4 : ¬ (4 : Int32) = 2 := by decide
        simp only [s_X4_isKindOfLevel_0, s_X4_isKindOfLevel_1, s_X4_isKindOfLevel_4, s_X4_isKindOfLevel_5, s_X4_isKindOfLevel_7, s_X4_isKindOfLevel_10, s_X4_isKindOfLevel_11, s_X4_isKindOfLevel_12, s_X4_isKindOfLevel_13, s_X4_isKindOfLevel_14, s_X4_isKindOfLevel_17, s_X4_isKindOfLevel_18, s_X4_isKindOfLevel_19, s_X4_isKindOfLevel_22, s_X4_isKindOfLevel_23, s_X4_isKindOfLevel_26, s_X4_isKindOfLevel_27, s_X4_isKindOfLevel_28, s_X4_isKindOfLevel_29, s_X4_isKindOfLevel_32, s_X4_isKindOfLevel_33, s_X4_isKindOfLevel_34, s_X4_isKindOfLevel_37, s_X4_isKindOfLevel_37n, s_X4_isKindOfLevel_37z, s_X4_isKindOfLevel_38, s_X4_isKindOfLevel_41, s_X4_isKindOfLevel_44, s_X4_isKindOfLevel_45, s_X4_isKindOfLevel_48, s_X4_isKindOfLevel_49, s_X4_isKindOfLevel_52, s_X4_isKindOfLevel_53, tl_some, tl_none, cv_int, cv_ref, cv_null, cv_long, cat_rf, jcv_nil, jcat_cons, jv_none, jv_int, jv_ref, jv_null, jw_rf, rf_some, rf_none, bz_0, bz_1, i1_0, i0_0, if_true, if_false, ite_self, List.nil_append, List.cons_append, Nat.reduceAdd, Nat.reduceLeDiff, Nat.zero_le, Nat.le_refl, and_self, and_true, true_and, not_true_eq_false, not_false_eq_true, reduceIte, h4, e0, e2, e4, hy, c1, c8, hl]
    · rw [if_neg (c := badG A x y) (fun q => by
        rcases q with q | q | q | q
        · exact h0 q
        · exact h6 q
        · exact hy q
        · rw [if_pos hc] at q; exact hl q)]
      rcases hc with h2 | h4
      · have e2 : ¬ (6 : Int32) < 2 := by decide
        have e0 : ¬ (2 : Int32) < 0 := by decide
        simp only [s_X4_isKindOfLevel_0, s_X4_isKindOfLevel_1, s_X4_isKindOfLevel_4, s_X4_isKindOfLevel_5, s_X4_isKindOfLevel_7, s_X4_isKindOfLevel_10, s_X4_isKindOfLevel_11, s_X4_isKindOfLevel_12, s_X4_isKindOfLevel_13, s_X4_isKindOfLevel_14, s_X4_isKindOfLevel_17, s_X4_isKindOfLevel_18, s_X4_isKindOfLevel_19, s_X4_isKindOfLevel_22, s_X4_isKindOfLevel_23, s_X4_isKindOfLevel_26, s_X4_isKindOfLevel_27, s_X4_isKindOfLevel_28, s_X4_isKindOfLevel_29, s_X4_isKindOfLevel_32, s_X4_isKindOfLevel_33, s_X4_isKindOfLevel_34, s_X4_isKindOfLevel_37, s_X4_isKindOfLevel_37n, s_X4_isKindOfLevel_37z, s_X4_isKindOfLevel_38, s_X4_isKindOfLevel_41, s_X4_isKindOfLevel_44, s_X4_isKindOfLevel_45, s_X4_isKindOfLevel_48, s_X4_isKindOfLevel_49, s_X4_isKindOfLevel_52, s_X4_isKindOfLevel_53, tl_some, tl_none, cv_int, cv_ref, cv_null, cv_long, cat_rf, jcv_nil, jcat_cons, jv_none, jv_int, jv_ref, jv_null, jw_rf, rf_some, rf_none, bz_0, bz_1, i1_0, i0_0, if_true, if_false, ite_self, List.nil_append, List.cons_append, Nat.reduceAdd, Nat.reduceLeDiff, Nat.zero_le, Nat.le_refl, and_self, and_true, true_and, not_true_eq_false, not_false_eq_true, reduceIte, h2, e0, e2, hy, c1, c8, hl]
      · have e2 : ¬ (6 : Int32) < 4 := by decide
        have e0 : ¬ (4 : Int32) < 0 := by decide
        have e4 : ¬ (4 : Int32) = 2 := by decide
        simp only [s_X4_isKindOfLevel_0, s_X4_isKindOfLevel_1, s_X4_isKindOfLevel_4, s_X4_isKindOfLevel_5, s_X4_isKindOfLevel_7, s_X4_isKindOfLevel_10, s_X4_isKindOfLevel_11, s_X4_isKindOfLevel_12, s_X4_isKindOfLevel_13, s_X4_isKindOfLevel_14, s_X4_isKindOfLevel_17, s_X4_isKindOfLevel_18, s_X4_isKindOfLevel_19, s_X4_isKindOfLevel_22, s_X4_isKindOfLevel_23, s_X4_isKindOfLevel_26, s_X4_isKindOfLevel_27, s_X4_isKindOfLevel_28, s_X4_isKindOfLevel_29, s_X4_isKindOfLevel_32, s_X4_isKindOfLevel_33, s_X4_isKindOfLevel_34, s_X4_isKindOfLevel_37, s_X4_isKindOfLevel_37n, s_X4_isKindOfLevel_37z, s_X4_isKindOfLevel_38, s_X4_isKindOfLevel_41, s_X4_isKindOfLevel_44, s_X4_isKindOfLevel_45, s_X4_isKindOfLevel_48, s_X4_isKindOfLevel_49, s_X4_isKindOfLevel_52, s_X4_isKindOfLevel_53, tl_some, tl_none, cv_int, cv_ref, cv_null, cv_long, cat_rf, jcv_nil, jcat_cons, jv_none, jv_int, jv_ref, jv_null, jw_rf, rf_some, rf_none, bz_0, bz_1, i1_0, i0_0, if_true, if_false, ite_self, List.nil_append, List.cons_append, Nat.reduceAdd, Nat.reduceLeDiff, Nat.zero_le, Nat.le_refl, and_self, and_true, true_and, not_true_eq_false, not_false_eq_true, reduceIte, h4, e0, e2, e4, hy, c1, c8, hl]
  · have h2 : ¬ x = 2 := fun q => hc (Or.inl q)
    have h4 : ¬ x = 4 := fun q => hc (Or.inr q)
    by_cases hl : 0 < y
    · rw [if_pos (c := badG A x y) (Or.inr (Or.inr (Or.inr (by rw [if_neg hc]; exact hl))))]
      simp only [s_X4_isKindOfLevel_0, s_X4_isKindOfLevel_1, s_X4_isKindOfLevel_4, s_X4_isKindOfLevel_5, s_X4_isKindOfLevel_7, s_X4_isKindOfLevel_10, s_X4_isKindOfLevel_11, s_X4_isKindOfLevel_12, s_X4_isKindOfLevel_13, s_X4_isKindOfLevel_14, s_X4_isKindOfLevel_17, s_X4_isKindOfLevel_18, s_X4_isKindOfLevel_19, s_X4_isKindOfLevel_22, s_X4_isKindOfLevel_23, s_X4_isKindOfLevel_26, s_X4_isKindOfLevel_27, s_X4_isKindOfLevel_28, s_X4_isKindOfLevel_29, s_X4_isKindOfLevel_32, s_X4_isKindOfLevel_33, s_X4_isKindOfLevel_34, s_X4_isKindOfLevel_37, s_X4_isKindOfLevel_37n, s_X4_isKindOfLevel_37z, s_X4_isKindOfLevel_38, s_X4_isKindOfLevel_41, s_X4_isKindOfLevel_44, s_X4_isKindOfLevel_45, s_X4_isKindOfLevel_48, s_X4_isKindOfLevel_49, s_X4_isKindOfLevel_52, s_X4_isKindOfLevel_53, tl_some, tl_none, cv_int, cv_ref, cv_null, cv_long, cat_rf, jcv_nil, jcat_cons, jv_none, jv_int, jv_ref, jv_null, jw_rf, rf_some, rf_none, bz_0, bz_1, i1_0, i0_0, if_true, if_false, ite_self, List.nil_append, List.cons_append, Nat.reduceAdd, Nat.reduceLeDiff, Nat.zero_le, Nat.le_refl, and_self, and_true, true_and, not_true_eq_false, not_false_eq_true, reduceIte, h0, h6, h2, h4, hy, hl]
    · rw [if_neg (c := badG A x y) (fun q => by
        rcases q with q | q | q | q
        · exact h0 q
        · exact h6 q
        · exact hy q
        · rw [if_neg hc] at q; exact hl q)]
      simp only [s_X4_isKindOfLevel_0, s_X4_isKindOfLevel_1, s_X4_isKindOfLevel_4, s_X4_isKindOfLevel_5, s_X4_isKindOfLevel_7, s_X4_isKindOfLevel_10, s_X4_isKindOfLevel_11, s_X4_isKindOfLevel_12, s_X4_isKindOfLevel_13, s_X4_isKindOfLevel_14, s_X4_isKindOfLevel_17, s_X4_isKindOfLevel_18, s_X4_isKindOfLevel_19, s_X4_isKindOfLevel_22, s_X4_isKindOfLevel_23, s_X4_isKindOfLevel_26, s_X4_isKindOfLevel_27, s_X4_isKindOfLevel_28, s_X4_isKindOfLevel_29, s_X4_isKindOfLevel_32, s_X4_isKindOfLevel_33, s_X4_isKindOfLevel_34, s_X4_isKindOfLevel_37, s_X4_isKindOfLevel_37n, s_X4_isKindOfLevel_37z, s_X4_isKindOfLevel_38, s_X4_isKindOfLevel_41, s_X4_isKindOfLevel_44, s_X4_isKindOfLevel_45, s_X4_isKindOfLevel_48, s_X4_isKindOfLevel_49, s_X4_isKindOfLevel_52, s_X4_isKindOfLevel_53, tl_some, tl_none, cv_int, cv_ref, cv_null, cv_long, cat_rf, jcv_nil, jcat_cons, jv_none, jv_int, jv_ref, jv_null, jw_rf, rf_some, rf_none, bz_0, bz_1, i1_0, i0_0, if_true, if_false, ite_self, List.nil_append, List.cons_append, Nat.reduceAdd, Nat.reduceLeDiff, Nat.zero_le, Nat.le_refl, and_self, and_true, true_and, not_true_eq_false, not_false_eq_true, reduceIte, h0, h6, h2, h4, hy, hl]
/-- a group is made -/
theorem c_grp_make (hR : Rel sv ω t g I J P A T tb ub) (hV : Inv ω I A st) (hZ : Z0 A) (hDg : Dg ω g A) (h21 : A 7 21 = 0) (hng : ngA A < 20) (hk : kd7 x) (hu : ¬ (¬ x = 3 ∧ ¬ gF A x y = 0))
    (K : ∀ (ω' : Wd) (t' u' : Nat) (g' : jG) (I' : tI) (J' : tJ) (P' : tP), Rel sv ω' t' g' I' J' P' (grpA A x y) T tb ub → Ny t u g I J P tb ub t' u' g' I' J' P' tb ub → Inv ω' I' (grpA A x y) st → Z0 (grpA A x y) → Dg ω' g' (grpA A x y) → ω'.1 = ω.1 → Q (some (.int (nI (ngA A + 1)))) (tv t' u' g' I' J' P')) :
    Ev sv (d + 7) (12, 62, [some (.ref (ω.1 0)), some (.int x), some (.int y), some (.int (nI (ngA A + 1)))], []) (tv t u g I J P) Q := by
  have hRsave := hR
  obtain ⟨hC, hV1, hG, hS, hP, hD, htg, hw, hl, mi, hs1⟩ := hR
  obtain ⟨c1, c2, c3, c4, c5, c6, c7, c8, c9, c10, c11, c12, c13⟩ := hC
  obtain ⟨hLg, hGs, hGi, hGb⟩ := hG
  have hg1 : gle g (jgset g t (2, 10)) := gle_new htg
  have htg1 : ∀ b κ, jt (jgset g t (2, 10)) b = some κ → b < t + 1 := by
    intro b κ hb1
    rw [jt_set] at hb1
    by_cases h : b = t
    · omega
    · rw [if_neg h] at hb1
      have := htg _ _ hb1
      omega
  have hg2 : gle (jgset g t (2, 10)) (jgset (jgset g t (2, 10)) (t + 1) (62, 10)) := gle_new htg1
  have hg12 := hg1.tr hg2
  have htg2 : ∀ b κ, jt (jgset (jgset g t (2, 10)) (t + 1) (62, 10)) b = some κ → b < t + 2 := by
    intro b κ hb1
    rw [jt_set] at hb1
    by_cases h : b = t + 1
    · omega
    · rw [if_neg h] at hb1
      have := htg1 _ _ hb1
      omega
  have ht1 : jt (jgset g t (2, 10)) t = some 2 := by rw [jt_set, if_pos rfl]
  have ht2 : jt (jgset (jgset g t (2, 10)) (t + 1) (62, 10)) t = some 2 := (hg2 _ _ ht1).1
  have hL1t := (hg12 _ _ hLg.1).1
  have hLg1 := hLg.1
  have S : Ev sv (d + 7) (12, 62, [some (.ref (ω.1 0)), some (.int x), some (.int y), some (.int (nI (ngA A + 1)))], []) (tv t u g I J P) Q ↔ Ev sv (d + 6) (101, 0, [some (.ref (ω.1 1)), some (.ref t)], []) (tv (t + 1 + 1) (u + 10 + 10) (jgset (jgset g t (2, 10)) (t + 1) (62, 10)) (gI I t (nI (ngA A + 1)) x y) (gJ J t) (gP P t)) (fun r M1 => Ev sv (d + 6 + 1) (12, 79, [some (.ref (ω.1 0)), some (.int x), some (.int y), some (.int (nI (ngA A + 1)))], r.toList ++ []) M1 Q) := by
    simp only [s_X4_group_62, s_X4_group_62n, s_X4_group_62z, s_X4_group_63, s_X4_group_66, s_X4_group_69, s_X4_group_70, s_X4_group_71, s_X4_group_72, s_X4_group_73, s_X4_group_76, s_X0_init_0, s_X0_init_0n, s_X0_init_0z, s_X0_init_1, s_X0_init_4, s_X0_init_4n, s_X0_init_4z, s_X0_init_5, s_X0_init_6, s_X0_init_9, s_X0_init_9n, s_X0_init_9z, s_X0_init_10, s_X0_init_11, s_X0_init_14, s_X0_init_14n, s_X0_init_14z, s_X0_init_15, s_X0_init_16, s_X0_init_19, s_X0_init_19n, s_X0_init_19z, s_X0_init_20, s_X0_init_22, s_X0_init_24, s_X0_init_24n, s_X0_init_27, s_X0_init_27n, s_X0_init_27z, s_X0_init_28, s_X0_init_29, s_X0_init_32, s_X0_init_32n, s_X0_init_32z, s_X0_init_33, s_X0_init_34, s_X0_init_37, s_X0_init_37n, s_X0_init_37z, s_X0_init_38, s_X0_init_39, s_X0_init_42, s_X0_init_42n, s_X0_init_42z, s_X0_init_43, s_X0_init_44, s_X0_init_47, s_X0_init_47n, s_X0_init_47z, s_X0_init_48, s_X0_init_49, s_X0_init_52, s_X0_init_52n, s_X0_init_52z, s_X0_init_53, s_X0_init_54, s_X0_init_57, tl_some, tl_none, cv_int, cv_ref, cv_null, cv_long, cat_rf, jcv_nil, jcat_cons, jv_none, jv_int, jv_ref, jv_null, jw_rf, rf_some, rf_none, bz_0, bz_1, i1_0, i0_0, if_true, if_false, ite_self, List.nil_append, List.cons_append, Nat.reduceAdd, Nat.reduceLeDiff, Nat.zero_le, Nat.le_refl, and_self, and_true, true_and, not_true_eq_false, not_false_eq_true, reduceIte, c1, c2, ht1, ht2, hL1t]
    exact Iff.rfl
  refine S.mpr ?_
  have hL1 : Lst sv (jgset (jgset g t (2, 10)) (t + 1) (62, 10)) (gI I t (nI (ngA A + 1)) x y) (gP P t) (ω.1 1) ω.2.2.2.2.1 ω.2.2.2.2.2.1 (ngA A) ω.2.1 := hLg.congr rfl rfl (fun _ _ => rfl) hg12
  refine l_add (d := d) hs1 hL1 (by omega) htg2 (fun i hi => Or.inl (hg12 _ _ (hGs i hi).1).1) (Or.inl ht2) hDg.2.1 (fun t' u' g' I' J' P' e' c' hL2 hF l1 l2 l3 l4 l5 l6 l7 => ?_)
  obtain ⟨f1, f2, f3, f4, f5⟩ := hF
  have hgl2 : gle (jgset (jgset g t (2, 10)) (t + 1) (62, 10)) g' := fun b κ hb1 => by
    have := f1 b (htg2 _ _ hb1)
    exact ⟨by rw [this.1]; exact hb1, this.2⟩
  have hgl := hg12.tr hgl2
  simp only [s_X4_group_79, s_X4_group_80, s_X4_group_81, tl_some, tl_none, cv_int, cv_ref, cv_null, cv_long, cat_rf, jcv_nil, jcat_cons, jv_none, jv_int, jv_ref, jv_null, jw_rf, rf_some, rf_none, bz_0, bz_1, i1_0, i0_0, if_true, if_false, ite_self, List.nil_append, List.cons_append, Nat.reduceAdd, Nat.reduceLeDiff, Nat.zero_le, Nat.le_refl, and_self, and_true, true_and, not_true_eq_false, not_false_eq_true, reduceIte]
  have hge := hRsave.ge
  -- what the new cells and the old hold
  have i2 : ∀ k b, I' 2 k b = gI I t (nI (ngA A + 1)) x y 2 k b := fun k b => f2 2 k b (by decide) (fun q => absurd q.1 (by decide))
  have i2o : ∀ k b, b < t → I' 2 k b = I 2 k b := fun k b hb => by rw [i2, gI_old (fun q => by omega) (fun q => absurd q.1 (by decide))]
  have i2n : ∀ k, I' 2 k t = if k = 0 then nI (ngA A + 1) else if k = 1 then x else if k = 2 then y else 0 := fun k => by rw [i2, gI_new]
  have i62n : ∀ j, I' 62 j (t + 1) = 0 := fun j => by rw [f2 62 j _ (by decide) (fun q => absurd q.1 (by decide)), gI_arr]
  have i62o : ∀ j b, b < t → I' 62 j b = I 62 j b := fun j b hb => by rw [f2 62 j b (by decide) (fun q => absurd q.1 (by decide)), gI_old (fun q => absurd q.1 (by decide)) (fun q => by omega)]
  have io : ∀ κ, κ ≠ 53 → κ ≠ 1 → κ ≠ 2 → κ ≠ 62 → I' κ = I κ := fun κ h1 h2 h3 h4 => by
    funext k b
    rw [f2 κ k b h1 (fun q => h2 q.1), gI_old (fun q => h3 q.1) (fun q => h4 q.1)]
  have jo : ∀ κ, κ ≠ 53 → κ ≠ 2 → κ ≠ 62 → J' κ = J κ := fun κ h1 h3 h4 => by
    funext k b
    rw [f3 κ k b h1]
    show upc (upc J 2 t _) 62 (t + 1) _ κ k b = _
    rw [upc_ap, if_neg (fun q => h4 q.1), upc_ap, if_neg (fun q => h3 q.1)]
  have po : ∀ κ, κ ≠ 53 → κ ≠ 1 → κ ≠ 2 → κ ≠ 62 → P' κ = P κ := fun κ h1 h2 h3 h4 => by
    funext k b
    rw [f4 κ k b h1 (fun q => h2 q.1)]
    show ups (upc (upc P 2 t _) 62 (t + 1) _) 2 6 t _ κ k b = _
    rw [ups_ap, if_neg (fun q => h3 q.1), upc_ap, if_neg (fun q => h4 q.1), upc_ap, if_neg (fun q => h3 q.1)]
  have p2n : P' 2 6 t = some (t + 1) := by
    rw [f4 2 6 t (by decide) (fun q => absurd q.1 (by decide))]
    show ups _ 2 6 t _ 2 6 t = _
    rw [ups_ap, if_pos ⟨rfl, rfl, rfl⟩]
  have p2o : ∀ b, b < t → P' 2 6 b = P 2 6 b := fun b hb => by
    rw [f4 2 6 b (by decide) (fun q => absurd q.1 (by decide))]
    show ups (upc (upc P 2 t _) 62 (t + 1) _) 2 6 t _ 2 6 b = _
    rw [ups_ap, if_neg (fun q => by omega), upc_ap, if_neg (fun q => absurd q.1 (by decide)), upc_ap, if_neg (fun q => by omega)]
  have a7 : ∀ j, j ≠ 5 → grpA A x y 7 j = cdA A 7 j := fun j hj => grpA_o (by omega) (by omega) (by omega)
  have ao : ∀ κ j, κ ≠ 7 → κ ≠ 66 → κ ≠ 67 → grpA A x y κ j = A κ j := fun κ j h1 h2 h3 => (grpA_o (by omega) (by omega) (by omega)).trans (if_neg (fun q => h1 q.1))
  have hz := hZ (ngA A + 1) (by omega)
  have hmA : ∀ i, mnA (grpA A x y) i = mnA A i := fun i => by unfold mnA; rw [ao 68 i (by decide) (by decide) (by decide)]
  have eng := grpA_ng (kd := x) (lv := y) hng
  have ens : nsA (grpA A x y) = nsA A := by unfold nsA; rw [a7 6 (by decide)]; rfl
  have n6 := io 6 (by decide) (by decide) (by decide) (by decide)
  have q6 := po 6 (by decide) (by decide) (by decide) (by decide)
  have other : ∀ a e c n f, a ≠ ω.1 1 → (e = ω.2.2.2.2.1 → jt g e = some 95) → Lst sv g I P a e c n f → Lst sv g' I' P' a e c n f := by
    intro a e c n f hne he95 h
    have hz : e = ω.2.2.2.2.1 → n = 0 := fun hee => by
      have h95 := he95 hee
      obtain ⟨-, -, -, -, k1, -, k2, -⟩ := h
      rcases k2 with ⟨k3, -⟩ | ⟨-, k3⟩
      · omega
      · rw [h95] at k3; cases k3
    have het : e < t := by
      rcases h.2.2.2.2.2.2.1 with ⟨-, k, -⟩ | ⟨-, k⟩ <;> exact htg _ _ k
    refine h.congr ?_ ?_ (fun i hi => ?_) hgl
    · rw [f2 1 2 _ (by decide) (fun q => hne q.2)]
      exact gI_old (fun q => absurd q.1 (by decide)) (fun q => absurd q.1 (by decide))
    · rw [f4 1 1 _ (by decide) (fun q => hne q.2)]
      rfl
    · rw [f5 i _ (by omega) (fun q => by have := hz q; omega)]
      rfl
  have hw' := grpA_wf (kd := x) (lv := y) hw hng
  have RGn : RG sv (ω.1, (fun i => if i = ngA A then t else ω.2.1 i), (fun i => if i = ngA A then t + 1 else ω.2.2.1 i), ω.2.2.2.1, e', c', ω.2.2.2.2.2.2.1, ω.2.2.2.2.2.2.2) g' I' P' (grpA A x y) := by
    refine ⟨by rw [eng]; exact hL2, fun i hi => ?_, fun i j hi hj he => ?_, fun i j hi hj he => ?_⟩
    · rw [eng] at hi
      show GrpAt g' I' P' (grpA A x y) (if i = ngA A then t else ω.2.1 i) (if i = ngA A then t + 1 else ω.2.2.1 i) (i + 1)
      by_cases e : i = ngA A
      · subst e
        rw [if_pos rfl, if_pos rfl]
        have h62 : jt (jgset (jgset g t (2, 10)) (t + 1) (62, 10)) (t + 1) = some 62 := by rw [jt_set, if_pos rfl]
        have hm0 : mnA A (ngA A + 1) = 0 := by unfold mnA; rw [hz.1]; rfl
        refine ⟨(hgl2 _ _ ht2).1, p2n, (hgl2 _ _ h62).1, by rw [(hgl2 _ _ h62).2, jn_set, if_pos rfl], by rw [i2n]; rfl, by rw [i2n, grpA_66]; rfl, by rw [i2n, grpA_67]; rfl, ?_, ?_, ?_, ?_, ?_⟩
        · rw [i2n, ao 68 _ (by decide) (by decide) (by decide), hz.1]
          rfl
        · rw [i2n, ao 71 _ (by decide) (by decide) (by decide), hz.2.1]
          exact Iff.rfl
        · rw [i2n, ao 72 _ (by decide) (by decide) (by decide), hz.2.2]
          rfl
        · rw [hmA, hm0]
          intro q
          omega
        · intro j hj
          rw [hmA, hm0] at hj
          have : j = 0 := by omega
          subst this
          rw [i62n]
          rfl
      · rw [if_neg e, if_neg e]
        have hi' : i < ngA A := by omega
        obtain ⟨k1, k2, k3, k4, k5, k6, k7, k8, k9, k10, k11, k12⟩ := hGs i hi'
        have hGt := htg _ _ k1
        have hbt := htg _ _ k3
        have o66 : grpA A x y 66 (i + 1) = A 66 (i + 1) := grpA_o (by omega) (by omega) (by omega)
        have o67 : grpA A x y 67 (i + 1) = A 67 (i + 1) := grpA_o (by omega) (by omega) (by omega)
        refine ⟨(hgl _ _ k1).1, by rw [p2o _ hGt]; exact k2, (hgl _ _ k3).1, by rw [(hgl _ _ k3).2]; exact k4, by rw [i2o _ _ hGt]; exact k5, by rw [i2o _ _ hGt, o66]; exact k6, by rw [i2o _ _ hGt, o67]; exact k7, by rw [i2o _ _ hGt, ao 68 _ (by decide) (by decide) (by decide)]; exact k8, by rw [i2o _ _ hGt, ao 71 _ (by decide) (by decide) (by decide)]; exact k9, by rw [i2o _ _ hGt, ao 72 _ (by decide) (by decide) (by decide)]; exact k10, ?_, ?_⟩
        · rw [hmA, i2o _ _ hGt, i2o _ _ hGt, ao 69 _ (by decide) (by decide) (by decide), ao 70 _ (by decide) (by decide) (by decide)]
          exact k11
        · intro j hj
          rw [hmA] at hj
          rw [i62o _ _ hbt, lat_congr (A := A) (B := grpA A x y) (fun j => ao 69 j (by decide) (by decide) (by decide))]
          exact k12 j hj
    · rw [eng] at hi hj
      have he : (if i = ngA A then t else ω.2.1 i) = (if j = ngA A then t else ω.2.1 j) := he
      by_cases e1 : i = ngA A
      · by_cases e2 : j = ngA A
        · omega
        · rw [if_pos e1, if_neg e2] at he
          have := htg _ _ (hGs j (by omega)).1
          omega
      · by_cases e2 : j = ngA A
        · rw [if_neg e1, if_pos e2] at he
          have := htg _ _ (hGs i (by omega)).1
          omega
        · rw [if_neg e1, if_neg e2] at he
          exact hGi i j (by omega) (by omega) he
    · rw [eng] at hi hj
      have he : (if i = ngA A then t + 1 else ω.2.2.1 i) = (if j = ngA A then t + 1 else ω.2.2.1 j) := he
      by_cases e1 : i = ngA A
      · by_cases e2 : j = ngA A
        · omega
        · rw [if_pos e1, if_neg e2] at he
          have := htg _ _ (hGs j (by omega)).2.2.1
          omega
      · by_cases e2 : j = ngA A
        · rw [if_neg e1, if_pos e2] at he
          have := htg _ _ (hGs i (by omega)).2.2.1
          omega
        · rw [if_neg e1, if_neg e2] at he
          exact hGb i j (by omega) (by omega) he
  have RSn : RS sv (ω.1, (fun i => if i = ngA A then t else ω.2.1 i), (fun i => if i = ngA A then t + 1 else ω.2.2.1 i), ω.2.2.2.1, e', c', ω.2.2.2.2.2.2.1, ω.2.2.2.2.2.2.2) g' I' J' P' (grpA A x y) T := by
    obtain ⟨h1, h2, h3⟩ := hS
    refine ⟨by rw [ens]; exact other _ _ _ _ _ hD.1.symm (fun hee => by have := hDg.1 hee.symm; rw [hee]; exact this) h1, fun i hi => ?_, by rw [ens]; exact h3⟩
    rw [ens] at hi
    obtain ⟨s1, s2, s3, s4, s5, s6⟩ := h2 i hi
    have hsl := (hw.2.2.2.2 (i + 1) (by omega) (by omega)).2.2
    have n5 := io 5 (by decide) (by decide) (by decide) (by decide)
    have m5 := jo 5 (by decide) (by decide) (by decide)
    refine ⟨(hgl _ _ s1).1, by rw [n5, ao 74 _ (by decide) (by decide) (by decide)]; exact s2, ?_, by rw [n5, ao 75 _ (by decide) (by decide) (by decide)]; exact s4, by rw [n5, ao 76 _ (by decide) (by decide) (by decide)]; exact s5, by rw [m5]; exact s6⟩
    rw [n5, ao 74 _ (by decide) (by decide) (by decide), grpA_o (by omega) (by omega) (by omega)]
    exact s3
  have RPn : RP sv (ω.1, (fun i => if i = ngA A then t else ω.2.1 i), (fun i => if i = ngA A then t + 1 else ω.2.2.1 i), ω.2.2.2.1, e', c', ω.2.2.2.2.2.2.1, ω.2.2.2.2.2.2.2) g' I' P' (grpA A x y) tb ub := by
    obtain ⟨p1, p2, p3, he, hc, nsh, ha, hb, p4, p5, p6, p7, p8, p9, p10, p11, p12, p13, p14⟩ := hP
    have n3 := io 3 (by decide) (by decide) (by decide) (by decide)
    have n63 := io 63 (by decide) (by decide) (by decide) (by decide)
    have q3 := po 3 (by decide) (by decide) (by decide) (by decide)
    have q4 := po 4 (by decide) (by decide) (by decide) (by decide)
    have eln : ln (grpA A x y) = ln A := by unfold ln; rw [a7 28 (by decide)]; rfl
    have het : he < t := by
      rcases p4.2.2.2.2.2.2.1 with ⟨-, k, -⟩ | ⟨-, k⟩ <;> exact htg _ _ k
    refine ⟨(hgl _ _ p1).1, by rw [q3]; exact p2, by rw [n3, a7 28 (by decide)]; exact p3, he, hc, nsh, ha, hb, other _ _ _ _ _ hD.2.1.symm p13 p4, p5, fun q hq => ?_, p7, p8, by rw [eln]; exact p9, fun i hi c hc5 => ?_, p11, p12, fun hee => ?_, fun hee => ?_⟩
    · obtain ⟨s1, s2, s3, s4⟩ := p6 q hq
      exact ⟨(hgl _ _ s1).1, by rw [q4]; exact s2, (hgl _ _ s3).1, by rw [(hgl _ _ s3).2]; exact s4⟩
    · rw [eln] at hi
      rw [n63, ao 78 _ (by decide) (by decide) (by decide)]
      exact p10 i hi c hc5
    · have hee : he = e' := hee
      rcases l6 with h | h
      · rw [h] at hee
        exact (hgl _ _ (p13 hee)).1
      · omega
    · exact (hgl _ _ (p14 hee)).1
  have hRn : Rel sv (ω.1, (fun i => if i = ngA A then t else ω.2.1 i), (fun i => if i = ngA A then t + 1 else ω.2.2.1 i), ω.2.2.2.1, e', c', ω.2.2.2.2.2.2.1, ω.2.2.2.2.2.2.2) t' g' I' J' P' (grpA A x y) T tb ub := by
    refine ⟨?_, ?_, RGn, RSn, RPn, hD, l7, hw', ?_, mi, hs1⟩
    · exact ⟨(hgl _ _ c1).1, by rw [q6]; exact c2, by rw [q6]; exact c3, by rw [q6]; exact c4, by rw [n6, a7 1 (by decide)]; exact c5, by rw [n6, a7 2 (by decide)]; exact c6, by rw [n6, a7 3 (by decide)]; exact c7, by rw [n6, a7 4 (by decide)]; exact c8, by rw [n6, a7 21 (by decide)]; exact c9, by rw [n6, a7 24 (by decide)]; exact c10, by rw [n6, a7 25 (by decide)]; exact c11, by rw [n6, a7 22 (by decide)]; exact c12, by rw [n6, a7 23 (by decide)]; exact c13⟩
    · obtain ⟨v1, v2, v3, v4, v5, v6, v7, v8⟩ := hV1
      have n60 := io 60 (by decide) (by decide) (by decide) (by decide)
      have n61 := io 61 (by decide) (by decide) (by decide) (by decide)
      exact ⟨by rw [q6]; exact v1, by rw [q6]; exact v2, (hgl _ _ v3).1, by rw [(hgl _ _ v3).2]; exact v4, (hgl _ _ v5).1, by rw [(hgl _ _ v5).2]; exact v6, fun k hk => by rw [n60, ao 64 _ (by decide) (by decide) (by decide)]; exact v7 k hk, fun k hk => by rw [n61, ao 65 _ (by decide) (by decide) (by decide)]; exact v8 k hk⟩
    · have e28 := a7 28 (by decide)
      have e : ln (grpA A x y) = ln A := by unfold ln; rw [e28]; rfl
      unfold LnA
      rw [e28, e]
      exact hl
  obtain ⟨hInv, hZn⟩ := grpA_inv (ω := ω) (ω' := (ω.1, (fun i => if i = ngA A then t else ω.2.1 i), (fun i => if i = ngA A then t + 1 else ω.2.2.1 i), ω.2.2.2.1, e', c', ω.2.2.2.2.2.2.1, ω.2.2.2.2.2.2.2)) (I' := I') (kd := x) (lv := y) hw hV hZ h21 hng hk hu (by
    obtain ⟨t1, t2, t3⟩ := hV.2.2.2.1
    refine ⟨by rw [n6]; exact t1, t2, fun i hi => ?_⟩
    rw [eng] at hi
    show ∃ s', I' 2 9 (if i = ngA A then t else ω.2.1 i) = nI s' ∧ s' ≤ st
    by_cases e : i = ngA A
    · rw [if_pos e, i2n]
      exact ⟨0, rfl, by omega⟩
    · rw [if_neg e, i2o _ _ (htg _ _ (hGs i (by omega)).1)]
      exact t3 i (by omega))
  refine K _ t' u' g' I' J' P' hRn ⟨hgl, fun κ hκ => ⟨io κ (by omega) (by omega) (by omega) (by omega), jo κ (by omega) (by omega) (by omega), po κ (by omega) (by omega) (by omega) (by omega)⟩, by omega, by omega, by omega, ?_⟩ hInv hZn ⟨fun hee => ?_, by rw [eng]; exact l5, by rw [ens]; exact hDg.2.2⟩ rfl
  · have := hw.1.2
    omega
  · have hee : e' = ω.2.2.2.2.2.2.1 := hee
    show jt g' e' = some 95
    rcases l6 with h | h
    · rw [h] at hee ⊢
      exact (hgl _ _ (hDg.1 hee)).1
    · obtain ⟨κ, hκ⟩ := hge.2
      have := htg _ _ hκ
      omega
theorem c_group (hR : Rel sv ω t g I J P A T tb ub) (hV : Inv ω I A st) (hZ : Z0 A) (hDg : Dg ω g A)
    (K4 : badG A x y → Q (some (.int (-4))) (tv t u g I J P))
    (K5 : ¬ badG A x y → ¬ A 7 21 = 0 → Q (some (.int (-5))) (tv t u g I J P))
    (K0 : ¬ badG A x y → A 7 21 = 0 → (¬ x = 3 ∧ ¬ gF A x y = 0) → Q (some (.int 0)) (tv t u g I J P))
    (K1 : ¬ badG A x y → A 7 21 = 0 → ¬ (¬ x = 3 ∧ ¬ gF A x y = 0) → A 7 5 = 20 → Q (some (.int (-1))) (tv t u g I J P))
    (K : ¬ badG A x y → A 7 21 = 0 → ¬ (¬ x = 3 ∧ ¬ gF A x y = 0) → ¬ A 7 5 = 20 → ∀ (ω' : Wd) (t' u' : Nat) (g' : jG) (I' : tI) (J' : tJ) (P' : tP), Rel sv ω' t' g' I' J' P' (grpA A x y) T tb ub → Ny t u g I J P tb ub t' u' g' I' J' P' tb ub → Inv ω' I' (grpA A x y) st → Z0 (grpA A x y) → Dg ω' g' (grpA A x y) → ω'.1 = ω.1 → Q (some (.int (nI (ngA A + 1)))) (tv t' u' g' I' J' P')) :
    Ev sv (d + 7) (12, 0, [some (.ref (ω.1 0)), some (.int x), some (.int y), none], []) (tv t u g I J P) Q := by
  have c1 := hR.1.1
  have c2 := hR.1.2.1
  have c9 := hR.1.2.2.2.2.2.2.2.2.1
  have hLg := hR.2.2.1.1
  have hLg1 := hLg.1
  have hw := hR.2.2.2.2.2.2.2.1
  have h20 := hw.1
  have hsz : I 1 2 (ω.1 1) = nI (ngA A) := hLg.2.2.1
  have hik := fun (Q : Option Value → jM → Prop) => c_isKind (Q := Q) (sv := sv) (d := d + 6) (u := u) (x := x) (y := y) hR
  by_cases hbad : badG A x y
  · simp only [s_X4_group_0, s_X4_group_0n, s_X4_group_0z, s_X4_group_1, s_X4_group_2, s_X4_group_3, s_X4_group_6, s_X4_group_9, s_X4_group_11, tl_some, tl_none, cv_int, cv_ref, cv_null, cv_long, cat_rf, jcv_nil, jcat_cons, jv_none, jv_int, jv_ref, jv_null, jw_rf, rf_some, rf_none, bz_0, bz_1, i1_0, i0_0, if_true, if_false, ite_self, List.nil_append, List.cons_append, Nat.reduceAdd, Nat.reduceLeDiff, Nat.zero_le, Nat.le_refl, and_self, and_true, true_and, not_true_eq_false, not_false_eq_true, reduceIte, c1, hik, if_pos (c := badG A x y) hbad]
    exact K4 hbad
  · by_cases h21 : A 7 21 = 0
    · have hk : kd7 x := kd7_of (fun q => hbad (Or.inl q)) (fun q => hbad (Or.inr (Or.inl q)))
      have hs := nIs (ngA A)
      by_cases hu : ¬ x = 3 ∧ ¬ gF A x y = 0
      · have hgo := fun (Q : Option Value → jM → Prop) => c_groupOf (Q := Q) (sv := sv) (d := d + 3) (u := u) (kd := x) (lv := y) hR hV.1.2.2.2 hu.1
        have e : gR ω (gF A x y) = some (ω.2.1 (gF A x y - 1)) := if_neg hu.2
        simp only [s_X4_group_0, s_X4_group_0n, s_X4_group_0z, s_X4_group_1, s_X4_group_2, s_X4_group_3, s_X4_group_6, s_X4_group_9, s_X4_group_11, s_X4_group_12, s_X4_group_12n, s_X4_group_12z, s_X4_group_13, s_X4_group_16, s_X4_group_19, s_X4_group_21, s_X4_group_22, s_X4_group_23, s_X4_group_24, s_X4_group_27, s_X4_group_27n, s_X4_group_27z, s_X4_group_28, s_X4_group_29, s_X4_group_30, s_X4_group_33n, s_X4_group_33, s_X4_group_33z, s_X4_group_36, s_X4_group_37, tl_some, tl_none, cv_int, cv_ref, cv_null, cv_long, cat_rf, jcv_nil, jcat_cons, jv_none, jv_int, jv_ref, jv_null, jw_rf, rf_some, rf_none, bz_0, bz_1, i1_0, i0_0, if_true, if_false, ite_self, List.nil_append, List.cons_append, Nat.reduceAdd, Nat.reduceLeDiff, Nat.zero_le, Nat.le_refl, and_self, and_true, true_and, not_true_eq_false, not_false_eq_true, reduceIte, c1, hik, if_neg (c := badG A x y) hbad, c9, h21, hu.1, hgo, e]
        exact K0 hbad h21 hu
      · -- to the count
        have S : Ev sv (d + 7) (12, 0, [some (.ref (ω.1 0)), some (.int x), some (.int y), none], []) (tv t u g I J P) Q ↔ Ev sv (d + 7) (12, 38, [some (.ref (ω.1 0)), some (.int x), some (.int y), none], []) (tv t u g I J P) Q := by
          by_cases h3 : x = 3
          · subst h3
            simp only [s_X4_group_0, s_X4_group_0n, s_X4_group_0z, s_X4_group_1, s_X4_group_2, s_X4_group_3, s_X4_group_6, s_X4_group_9, s_X4_group_11, s_X4_group_12, s_X4_group_12n, s_X4_group_12z, s_X4_group_13, s_X4_group_16, s_X4_group_19, s_X4_group_21, s_X4_group_22, s_X4_group_23, s_X4_group_24, tl_some, tl_none, cv_int, cv_ref, cv_null, cv_long, cat_rf, jcv_nil, jcat_cons, jv_none, jv_int, jv_ref, jv_null, jw_rf, rf_some, rf_none, bz_0, bz_1, i1_0, i0_0, if_true, if_false, ite_self, List.nil_append, List.cons_append, Nat.reduceAdd, Nat.reduceLeDiff, Nat.zero_le, Nat.le_refl, and_self, and_true, true_and, not_true_eq_false, not_false_eq_true, reduceIte, c1, hik, if_neg (c := badG A 3 y) hbad, c9, h21]
          · have hgo := fun (Q : Option Value → jM → Prop) => c_groupOf (Q := Q) (sv := sv) (d := d + 3) (u := u) (kd := x) (lv := y) hR hV.1.2.2.2 h3
            have h0 : gF A x y = 0 := by
              by_cases c : gF A x y = 0
              · exact c
              · exact absurd ⟨h3, c⟩ hu
            have e : gR ω (gF A x y) = none := if_pos h0
            simp only [s_X4_group_0, s_X4_group_0n, s_X4_group_0z, s_X4_group_1, s_X4_group_2, s_X4_group_3, s_X4_group_6, s_X4_group_9, s_X4_group_11, s_X4_group_12, s_X4_group_12n, s_X4_group_12z, s_X4_group_13, s_X4_group_16, s_X4_group_19, s_X4_group_21, s_X4_group_22, s_X4_group_23, s_X4_group_24, s_X4_group_27, s_X4_group_27n, s_X4_group_27z, s_X4_group_28, s_X4_group_29, s_X4_group_30, s_X4_group_33n, s_X4_group_33, s_X4_group_33z, tl_some, tl_none, cv_int, cv_ref, cv_null, cv_long, cat_rf, jcv_nil, jcat_cons, jv_none, jv_int, jv_ref, jv_null, jw_rf, rf_some, rf_none, bz_0, bz_1, i1_0, i0_0, if_true, if_false, ite_self, List.nil_append, List.cons_append, Nat.reduceAdd, Nat.reduceLeDiff, Nat.zero_le, Nat.le_refl, and_self, and_true, true_and, not_true_eq_false, not_false_eq_true, reduceIte, c1, hik, if_neg (c := badG A x y) hbad, c9, h21, h3, hgo, e]
        refine S.mpr ?_
        by_cases h5 : A 7 5 = 20
        · have e : I 1 2 (ω.1 1) = 20 := by rw [hsz, ← h20.1]; exact h5
          have hlt : ¬ (20 : Int32) < 20 := by decide
          simp only [s_X4_group_38, s_X4_group_38n, s_X4_group_38z, s_X4_group_39, s_X4_group_42, s_X4_group_45, s_X4_group_47, s_X4_group_50, s_X4_group_51, tl_some, tl_none, cv_int, cv_ref, cv_null, cv_long, cat_rf, jcv_nil, jcat_cons, jv_none, jv_int, jv_ref, jv_null, jw_rf, rf_some, rf_none, bz_0, bz_1, i1_0, i0_0, if_true, if_false, ite_self, List.nil_append, List.cons_append, Nat.reduceAdd, Nat.reduceLeDiff, Nat.zero_le, Nat.le_refl, and_self, and_true, true_and, not_true_eq_false, not_false_eq_true, reduceIte, c1, c2, hLg1, l_size hLg1, e, hlt]
          exact K1 hbad h21 hu h5
        · have hn : ngA A < 20 := by
            by_cases c : ngA A = 20
            · rw [h20.1, c] at h5; exact absurd rfl h5
            · omega
          have hlt : nI (ngA A) < 20 := nI_lt (b := 20) hn (by omega)
          simp only [s_X4_group_38, s_X4_group_38n, s_X4_group_38z, s_X4_group_39, s_X4_group_42, s_X4_group_45, s_X4_group_47, s_X4_group_50, s_X4_group_51, s_X4_group_52, s_X4_group_52n, s_X4_group_52z, s_X4_group_53, s_X4_group_56, s_X4_group_59, s_X4_group_60, s_X4_group_61, tl_some, tl_none, cv_int, cv_ref, cv_null, cv_long, cat_rf, jcv_nil, jcat_cons, jv_none, jv_int, jv_ref, jv_null, jw_rf, rf_some, rf_none, bz_0, bz_1, i1_0, i0_0, if_true, if_false, ite_self, List.nil_append, List.cons_append, Nat.reduceAdd, Nat.reduceLeDiff, Nat.zero_le, Nat.le_refl, and_self, and_true, true_and, not_true_eq_false, not_false_eq_true, reduceIte, c1, c2, hLg1, l_size hLg1, hsz, hlt, hs]
          exact c_grp_make (d := d) hR hV hZ hDg h21 hn hk hu (K hbad h21 hu h5)
    · simp only [s_X4_group_0, s_X4_group_0n, s_X4_group_0z, s_X4_group_1, s_X4_group_2, s_X4_group_3, s_X4_group_6, s_X4_group_9, s_X4_group_11, s_X4_group_12, s_X4_group_12n, s_X4_group_12z, s_X4_group_13, s_X4_group_16, s_X4_group_19, s_X4_group_21, tl_some, tl_none, cv_int, cv_ref, cv_null, cv_long, cat_rf, jcv_nil, jcat_cons, jv_none, jv_int, jv_ref, jv_null, jw_rf, rf_some, rf_none, bz_0, bz_1, i1_0, i0_0, if_true, if_false, ite_self, List.nil_append, List.cons_append, Nat.reduceAdd, Nat.reduceLeDiff, Nat.zero_le, Nat.le_refl, and_self, and_true, true_and, not_true_eq_false, not_false_eq_true, reduceIte, c1, hik, if_neg (c := badG A x y) hbad, c9, h21]
      exact K5 hbad h21
end
