-- ===== at =====
section
variable {sv : Nat → Value} {d t u : Nat} {Q : Option Value → jM → Prop} {g : jG} {I I' : tI} {J : tJ} {P : tP} {A B : Nat → Nat → Int32} {T T' : Nat → Int64} {ω : Wd} {tb ub st : Nat} {x y z : Int32}
abbrev noAt (A : Nat → Nat → Int32) (x y : Int32) : Prop := x < 0 ∨ ¬ x < A 7 28 ∨ y < 0 ∨ ¬ y < 5
theorem c_has (hR : Rel sv ω t g I J P A T tb ub) : Ev sv d (7, 0, [some (.ref (ω.1 5)), some (.int x), some (.int y)], []) (tv t u g I J P) Q ↔ if noAt A x y then Q (some (.int 0)) (tv t u g I J P) else Q (some (.int 1)) (tv t u g I J P) := by
  obtain ⟨p1, p2, p3, -⟩ := hR.2.2.2.2.1
  by_cases h1 : x < 0
  · rw [if_pos (c := noAt A x y) (Or.inl h1)]
    simp only [s_X1_has_0, s_X1_has_1, s_X1_has_4, s_X1_has_5, s_X1_has_5n, s_X1_has_5z, s_X1_has_6, s_X1_has_9, s_X1_has_12, s_X1_has_13, s_X1_has_16, s_X1_has_17, s_X1_has_18, s_X1_has_21, s_X1_has_22, s_X1_has_25, s_X1_has_26, tl_some, tl_none, cv_int, cv_ref, cv_null, cv_long, cat_rf, jcv_nil, jcat_cons, jv_none, jv_int, jv_ref, jv_null, jw_rf, rf_some, rf_none, bz_0, bz_1, i1_0, i0_0, if_true, if_false, ite_self, List.nil_append, List.cons_append, Nat.reduceAdd, Nat.reduceLeDiff, Nat.zero_le, Nat.le_refl, and_self, and_true, true_and, not_true_eq_false, not_false_eq_true, reduceIte, p1, p3, h1]
  by_cases h2 : x < A 7 28
  · by_cases h3 : y < 0
    · rw [if_pos (c := noAt A x y) (Or.inr (Or.inr (Or.inl h3)))]
      simp only [s_X1_has_0, s_X1_has_1, s_X1_has_4, s_X1_has_5, s_X1_has_5n, s_X1_has_5z, s_X1_has_6, s_X1_has_9, s_X1_has_12, s_X1_has_13, s_X1_has_16, s_X1_has_17, s_X1_has_18, s_X1_has_21, s_X1_has_22, s_X1_has_25, s_X1_has_26, tl_some, tl_none, cv_int, cv_ref, cv_null, cv_long, cat_rf, jcv_nil, jcat_cons, jv_none, jv_int, jv_ref, jv_null, jw_rf, rf_some, rf_none, bz_0, bz_1, i1_0, i0_0, if_true, if_false, ite_self, List.nil_append, List.cons_append, Nat.reduceAdd, Nat.reduceLeDiff, Nat.zero_le, Nat.le_refl, and_self, and_true, true_and, not_true_eq_false, not_false_eq_true, reduceIte, p1, p3, h1, h2, h3]
    by_cases h4 : y < 5
    · rw [if_neg (c := noAt A x y) (fun q => by
        rcases q with q | q | q | q
        · exact h1 q
        · exact q h2
        · exact h3 q
        · exact q h4)]
      simp only [s_X1_has_0, s_X1_has_1, s_X1_has_4, s_X1_has_5, s_X1_has_5n, s_X1_has_5z, s_X1_has_6, s_X1_has_9, s_X1_has_12, s_X1_has_13, s_X1_has_16, s_X1_has_17, s_X1_has_18, s_X1_has_21, s_X1_has_22, s_X1_has_25, s_X1_has_26, tl_some, tl_none, cv_int, cv_ref, cv_null, cv_long, cat_rf, jcv_nil, jcat_cons, jv_none, jv_int, jv_ref, jv_null, jw_rf, rf_some, rf_none, bz_0, bz_1, i1_0, i0_0, if_true, if_false, ite_self, List.nil_append, List.cons_append, Nat.reduceAdd, Nat.reduceLeDiff, Nat.zero_le, Nat.le_refl, and_self, and_true, true_and, not_true_eq_false, not_false_eq_true, reduceIte, p1, p3, h1, h2, h3, h4]
    · rw [if_pos (c := noAt A x y) (Or.inr (Or.inr (Or.inr h4)))]
      simp only [s_X1_has_0, s_X1_has_1, s_X1_has_4, s_X1_has_5, s_X1_has_5n, s_X1_has_5z, s_X1_has_6, s_X1_has_9, s_X1_has_12, s_X1_has_13, s_X1_has_16, s_X1_has_17, s_X1_has_18, s_X1_has_21, s_X1_has_22, s_X1_has_25, s_X1_has_26, tl_some, tl_none, cv_int, cv_ref, cv_null, cv_long, cat_rf, jcv_nil, jcat_cons, jv_none, jv_int, jv_ref, jv_null, jw_rf, rf_some, rf_none, bz_0, bz_1, i1_0, i0_0, if_true, if_false, ite_self, List.nil_append, List.cons_append, Nat.reduceAdd, Nat.reduceLeDiff, Nat.zero_le, Nat.le_refl, and_self, and_true, true_and, not_true_eq_false, not_false_eq_true, reduceIte, p1, p3, h1, h2, h3, h4]
  · rw [if_pos (c := noAt A x y) (Or.inr (Or.inl h2))]
    simp only [s_X1_has_0, s_X1_has_1, s_X1_has_4, s_X1_has_5, s_X1_has_5n, s_X1_has_5z, s_X1_has_6, s_X1_has_9, s_X1_has_12, s_X1_has_13, s_X1_has_16, s_X1_has_17, s_X1_has_18, s_X1_has_21, s_X1_has_22, s_X1_has_25, s_X1_has_26, tl_some, tl_none, cv_int, cv_ref, cv_null, cv_long, cat_rf, jcv_nil, jcat_cons, jv_none, jv_int, jv_ref, jv_null, jw_rf, rf_some, rf_none, bz_0, bz_1, i1_0, i0_0, if_true, if_false, ite_self, List.nil_append, List.cons_append, Nat.reduceAdd, Nat.reduceLeDiff, Nat.zero_le, Nat.le_refl, and_self, and_true, true_and, not_true_eq_false, not_false_eq_true, reduceIte, p1, p3, h1, h2]
theorem c_cell (hR : Rel sv ω t g I J P A T tb ub) (hb : ln A ≤ 100000) (hno : ¬ noAt A x y) : Ev sv (d + 3) (8, 0, [some (.ref (ω.1 5)), some (.int x), some (.int y), none], []) (tv t u g I J P) Q ↔ Q (some (.int (A 78 (5 * x.toNatClampNeg + y.toNatClampNeg)))) (tv t u g I J P) := by
  have hl : LnA A := hR.2.2.2.2.2.2.2.2.1
  have hhas := fun (Q : Option Value → jM → Prop) => c_has (Q := Q) (sv := sv) (d := d + 2) (u := u) (x := x) (y := y) hR
  obtain ⟨p1, p2, p3, he, hc, nsh, ha, hbq, p4, p5, p6, p7, p8, p9, p10, p11, p12, p13, p14⟩ := hR.2.2.2.2.1
  have hx0 : ¬ x < 0 := fun q => hno (Or.inl q)
  have hx1 : x < A 7 28 := by
    by_cases c : x < A 7 28
    · exact c
    · exact absurd (Or.inr (Or.inl c)) hno
  have hy0 : ¬ y < 0 := fun q => hno (Or.inr (Or.inr (Or.inl q)))
  have hy1 : y < 5 := by
    by_cases c : y < 5
    · exact c
    · exact absurd (Or.inr (Or.inr (Or.inr c))) hno
  have hxe := nIo hx0
  have hye := nIo hy0
  have hxn : x.toNatClampNeg < ln A := by
    have h1 := i32_lt.mp hx1
    have h2 := clamp_pos hx0
    have h3 : (A 7 28).toInt = (ln A : Int) := by
      show (A 7 28).toInt = ((A 7 28).toNatClampNeg : Int)
      rw [clamp_pos]
      intro q
      have := i32_lt.mp q
      have h0 : (0 : Int32).toInt = 0 := rfl
      rw [h0] at this
      omega
    omega
  have hyn : y.toNatClampNeg < 5 := by
    have h1 := i32_lt.mp hy1
    have h2 := clamp_pos hy0
    have h5 : (5 : Int32).toInt = 5 := rfl
    rw [h5] at h1
    omega
  have hcell := p10 x.toNatClampNeg hxn y.toNatClampNeg hyn
  rw [hxe, hye] at hhas ⊢
  rw [nI_clamp (by omega), nI_clamp (by omega)]
  rw [hxe, hye] at hno
  generalize hxq : x.toNatClampNeg = i at *
  generalize hyq : y.toNatClampNeg = j at *
  have hq : i / 64 < nsh := by omega
  have hdiv : nI i / 64 = nI (i / 64) := pk_div (a := i) (d := 64) (by omega) (by omega) (by omega)
  have hrem : nI i - nI i / 64 * 64 = nI (i % 64) := pk_rem (a := i) (d := 64) (by omega) (by omega) (by omega)
  rw [hdiv] at hrem
  have h64 : ¬ (64 : Int32) = 0 := by decide
  have hm5 : nI (i % 64) * 5 = nI (i % 64 * 5) := nI_mul (i % 64) 5
  have hadd : nI (i % 64 * 5) + nI j = nI (i % 64 * 5 + j) := nI_add (i % 64 * 5) j
  obtain ⟨s1, s2, s3, s4⟩ := p6 (i / 64) hq
  have hp4 := p4.1
  have hj : jin (nI (i % 64 * 5 + j)) (jn g (hbq (i / 64))) = true := by rw [s4]; exact jin_nI (by omega) (by omega)
  have hcl : (nI (i % 64 * 5 + j)).toNatClampNeg = i % 64 * 5 + j := nI_clamp (by omega)
  have hg := fun (Q : Option Value → jM → Prop) => l_get (Q := Q) (sv := sv) (d := d) (t := t) (u := u) (J := J) p4 hq
  simp only [s_X1_cell_0, s_X1_cell_0n, s_X1_cell_0z, s_X1_cell_1, s_X1_cell_2, s_X1_cell_3, s_X1_cell_6, s_X1_cell_9, s_X1_cell_10, s_X1_cell_11, s_X1_cell_11n, s_X1_cell_11z, s_X1_cell_12, s_X1_cell_15, s_X1_cell_16, s_X1_cell_18, s_X1_cell_19, s_X1_cell_22, s_X1_cell_22z, s_X1_cell_25, s_X1_cell_25n, s_X1_cell_25z, s_X1_cell_26, s_X1_cell_26n, s_X1_cell_26z, s_X1_cell_27, s_X1_cell_30, s_X1_cell_31, s_X1_cell_33, s_X1_cell_34, s_X1_cell_35, s_X1_cell_36, s_X1_cell_37, s_X1_cell_38, s_X1_cell_39, tl_some, tl_none, cv_int, cv_ref, cv_null, cv_long, cat_rf, jcv_nil, jcat_cons, jv_none, jv_int, jv_ref, jv_null, jw_rf, rf_some, rf_none, bz_0, bz_1, i1_0, i0_0, if_true, if_false, ite_self, List.nil_append, List.cons_append, Nat.reduceAdd, Nat.reduceLeDiff, Nat.zero_le, Nat.le_refl, and_self, and_true, true_and, not_true_eq_false, not_false_eq_true, reduceIte, p1, hhas, if_neg (c := noAt A (nI i) (nI j)) hno, p2, h64, hrem, hdiv, hp4, hg, s1, s2, s3, hm5, hadd, hj, hcl, hcell]
theorem c_at (hR : Rel sv ω t g I J P A T tb ub) (hb : ln A ≤ 100000) (hno : ¬ noAt A x y) : Ev sv (d + 4) (20, 0, [some (.ref (ω.1 0)), some (.int x), some (.int y)], []) (tv t u g I J P) Q ↔ Q (some (.int (A 78 (5 * x.toNatClampNeg + y.toNatClampNeg)))) (tv t u g I J P) := by
  have c1 := hR.1.1
  have c4 := hR.1.2.2.2.1
  have p1 := hR.2.2.2.2.1.1
  have hhas := fun (Q : Option Value → jM → Prop) => c_has (Q := Q) (sv := sv) (d := d + 3) (u := u) (x := x) (y := y) hR
  have hcell := fun (Q : Option Value → jM → Prop) => c_cell (Q := Q) (sv := sv) (d := d) (u := u) (x := x) (y := y) hR hb hno
  simp only [s_X4_at_0, s_X4_at_0n, s_X4_at_0z, s_X4_at_1, s_X4_at_4, s_X4_at_5, s_X4_at_6, s_X4_at_9, s_X4_at_12, s_X4_at_15, s_X4_at_18, s_X4_at_22, s_X4_at_22n, s_X4_at_22z, s_X4_at_23, s_X4_at_26, s_X4_at_27, s_X4_at_28, s_X4_at_31, tl_some, tl_none, cv_int, cv_ref, cv_null, cv_long, cat_rf, jcv_nil, jcat_cons, jv_none, jv_int, jv_ref, jv_null, jw_rf, rf_some, rf_none, bz_0, bz_1, i1_0, i0_0, if_true, if_false, ite_self, List.nil_append, List.cons_append, Nat.reduceAdd, Nat.reduceLeDiff, Nat.zero_le, Nat.le_refl, and_self, and_true, true_and, not_true_eq_false, not_false_eq_true, reduceIte, c1, c4, p1, hhas, if_neg (c := noAt A x y) hno, hcell]
end
