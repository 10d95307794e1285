-- ===== the calls that make nothing =====
theorem WfP.cg {A B : Nat → Nat → Int32} (hp : WfP A) (h : ∀ κ j, κ = 66 ∨ κ = 67 ∨ κ = 68 ∨ κ = 69 ∨ κ = 72 ∨ (κ = 7 ∧ (j = 1 ∨ j = 2 ∨ j = 3 ∨ j = 5)) → B κ j = A κ j) : WfP B := by
  have hng : ngA B = ngA A := by unfold ngA; rw [h 7 5 (by simp)]
  have hmn : ∀ i, mnA B i = mnA A i := fun i => by unfold mnA; rw [h 68 i (by simp)]
  have e66 : ∀ i, B 66 i = A 66 i := fun i => h 66 i (by simp)
  have e67 : ∀ i, B 67 i = A 67 i := fun i => h 67 i (by simp)
  obtain ⟨h1, h2, h3, h4⟩ := hp
  refine ⟨by rw [h 7 1 (by simp), h 7 2 (by simp), h 7 3 (by simp)]; exact h1, fun gi a1 a2 k hk => by rw [h 69 _ (by simp)]; exact h2 gi a1 (by rw [← hng]; exact a2) k (by rw [← hmn]; exact hk), fun gi a1 a2 a3 => by rw [h 72 _ (by simp)]; exact h3 gi a1 (by rw [← hng]; exact a2) (by rw [← e66]; exact a3), fun i j a1 a2 a3 a4 a5 a6 a7 => h4 i j a1 (by rw [← hng]; exact a2) a3 (by rw [← hng]; exact a4) (by rw [← e66]; exact a5) (by rw [← e66 i, ← e66 j]; exact a6) (by rw [← e67 i, ← e67 j]; exact a7)⟩
theorem WfL.cg {A B : Nat → Nat → Int32} (hs : WfL A) (h : ∀ κ j, κ = 66 ∨ κ = 68 ∨ κ = 69 ∨ κ = 70 ∨ (κ = 7 ∧ (j = 2 ∨ j = 3 ∨ j = 5)) → B κ j = A κ j) : WfL B := by
  have hng : ngA B = ngA A := by unfold ngA; rw [h 7 5 (by simp)]
  intro gi h1 h2
  rw [hng] at h2
  have hmn : mnA B gi = mnA A gi := by unfold mnA; rw [h 68 gi (by simp)]
  rw [inb, h 66 _ (by simp), hmn, h 70 _ (by simp), h 69 _ (by simp), h 7 2 (by simp), h 7 3 (by simp)]
  exact hs gi h1 h2
theorem WfS.cg {A B : Nat → Nat → Int32} (hs : WfS A) (h : ∀ κ j, κ = 66 ∨ κ = 67 ∨ κ = 68 ∨ κ = 69 ∨ κ = 70 ∨ κ = 74 ∨ κ = 75 ∨ (κ = 7 ∧ (j = 2 ∨ j = 3 ∨ j = 5 ∨ j = 6)) → B κ j = A κ j) : WfS B := by
  refine ⟨?_, hs.2.cg (fun κ j hk => h κ j (by omega))⟩
  obtain ⟨hs, -⟩ := hs
  have hns : nsA B = nsA A := by unfold nsA; rw [h 7 6 (by simp)]
  constructor
  · intro s h1 h2
    rw [hns] at h2
    rw [h 66 _ (by simp), h 74 _ (by simp)]
    exact hs.1 s h1 h2
  · intro t s h1 h2 h3 h4 h5
    rw [hns] at h2 h4
    rw [h 75 _ (by simp)] at h5
    rw [h 67 _ (by simp), h 67 _ (by simp), h 74 _ (by simp), h 74 _ (by simp)]
    exact hs.2 t s h1 h2 h3 h4 h5
section
variable {sv : Nat → Value} {d t u : Nat} {Q : Option Value → jM → Prop} {g : jG} {I I' : tI} {J : tJ} {P : tP} {A B : Nat → Nat → Int32} {T T' : Nat → Int64} {ω : Wd} {tb ub st : Nat} {x y z : Int32}
/-- while no report goes on, less is to be kept -/
theorem Inv.off (h : Inv ω I A st) (h21 : A 7 21 = 0) (hp : WfP B) (hv : V0 B) (hS : WfS B) (hT : RT ω I' B st) (h7 : ∀ j, j = 21 ∨ j = 22 ∨ j = 28 → B 7 j = A 7 j) : Inv ω I' B st := by
  obtain ⟨-, -, -, -, ⟨n, hn1, hn2, hn3, hn4⟩, -, -⟩ := h
  have e : ln B = ln A := by unfold ln; rw [h7 28 (by simp)]
  have e21 : B 7 21 = 0 := (h7 21 (by simp)).trans h21
  exact ⟨hp, hv, hS, hT, ⟨n, by rw [h7 22 (by simp)]; exact hn1, hn2, by rw [e]; exact hn3, fun q => absurd e21 q⟩, fun q => absurd e21 q, fun q => absurd e21 q⟩
/-- what stays while a report goes on -/
theorem Inv.on (h : Inv ω I A st) (hp : WfP B) (hv : V0 B) (hS : WfS B) (hng : ngA B = ngA A) (h6 : I' 6 12 (ω.1 0) = I 6 12 (ω.1 0) ∧ I' 6 15 (ω.1 0) = I 6 15 (ω.1 0)) (h9 : ∀ b, I' 2 9 b = I 2 9 b) (h66 : ∀ j, B 66 j = A 66 j ∧ B 73 j = A 73 j) (h7 : ∀ j, j = 21 ∨ j = 22 ∨ j = 26 ∨ j = 28 → B 7 j = A 7 j) : Inv ω I' B st := by
  obtain ⟨-, -, -, hT, ⟨n, hn1, hn2, hn3, hn4⟩, hB, hRI⟩ := h
  have e : ln B = ln A := by unfold ln; rw [h7 28 (by simp)]
  have e21 := h7 21 (by simp)
  have e22 := h7 22 (by simp)
  have e26 := h7 26 (by simp)
  refine ⟨hp, hv, hS, hT.kp h6.2 h9 hng, ⟨n, by rw [e22]; exact hn1, hn2, by rw [e]; exact hn3, by rw [e21, e]; exact hn4⟩, by rw [e21, h6.1, e26]; exact hB, ?_⟩
  rw [e21, e22]
  intro q1 q2 j hj h3
  rw [h9, h6.2, (h66 _).2]
  exact hRI q1 q2 j (by rw [← hng]; exact hj) (by rw [← (h66 _).1]; exact h3)
theorem c_lines (hR : Rel sv ω t g I J P A T tb ub) : Ev sv d (21, 0, [some (.ref (ω.1 0))], []) (tv t u g I J P) Q ↔ Q (some (.int (A 7 28))) (tv t u g I J P) := by
  have c1 := hR.1.1
  have c4 := hR.1.2.2.2.1
  have p1 := hR.2.2.2.2.1.1
  have p3 := hR.2.2.2.2.1.2.2.1
  simp only [s_X4_lines_0, s_X4_lines_0n, s_X4_lines_0z, s_X4_lines_1, s_X4_lines_4, s_X4_lines_7, tl_some, tl_none, cv_int, cv_ref, cv_null, cv_long, cat_rf, jcv_nil, jcat_cons, jv_none, jv_int, jv_ref, jv_null, jw_rf, rf_some, rf_none, bz_0, bz_1, i1_0, i0_0, if_true, if_false, ite_self, List.nil_append, List.cons_append, Nat.reduceAdd, Nat.reduceLeDiff, Nat.zero_le, Nat.le_refl, and_self, and_true, true_and, not_true_eq_false, not_false_eq_true, reduceIte, c1, c4, p1, p3]
theorem c_total (hR : Rel sv ω t g I J P A T tb ub) : Ev sv (d + 4) (22, 0, [some (.ref (ω.1 0)), some (.int x), none], []) (tv t u g I J P) Q ↔ Q (some (.long (if 0 < x ∧ ¬ A 7 6 < x then T x.toNatClampNeg else 0))) (tv t u g I J P) := by
  have c1 := hR.1.1
  have hw := hR.2.2.2.2.2.2.2.1
  have h20 := hw.2.1
  have hsn := fun (Q : Option Value → jM → Prop) => c_sumNumbered (Q := Q) (sv := sv) (d := d) (u := u) (x := x) hR
  by_cases hx : isS A x
  · rw [if_pos (c := 0 < x ∧ ¬ A 7 6 < x) hx]
    have hr := nI_range hx.1 (by rw [← h20.1]; exact hx.2) (by omega)
    obtain ⟨s1, s2, s3, s4, s5, s6⟩ := hR.2.2.2.1.2.1 (x.toNatClampNeg - 1) (by omega)
    have e1 : x.toNatClampNeg - 1 + 1 = x.toNatClampNeg := by omega
    rw [e1] at s6
    simp only [s_X4_total_0, s_X4_total_0n, s_X4_total_0z, s_X4_total_1, s_X4_total_2, s_X4_total_5, s_X4_total_5n, s_X4_total_5z, s_X4_total_6, s_X4_total_6n, s_X4_total_6z, s_X4_total_7n, s_X4_total_7, s_X4_total_7z, s_X4_total_10, s_X4_total_11, s_X4_total_14, s_X4_total_14n, s_X4_total_14z, s_X4_total_15, s_X4_total_18, tl_some, tl_none, cv_int, cv_ref, cv_null, cv_long, cat_rf, jcv_nil, jcat_cons, jv_none, jv_int, jv_ref, jv_null, jw_rf, rf_some, rf_none, bz_0, bz_1, i1_0, i0_0, if_true, if_false, ite_self, List.nil_append, List.cons_append, Nat.reduceAdd, Nat.reduceLeDiff, Nat.zero_le, Nat.le_refl, and_self, and_true, true_and, not_true_eq_false, not_false_eq_true, reduceIte, c1, hsn, if_pos (c := isS A x) hx, s1, s6]
  · rw [if_neg (c := 0 < x ∧ ¬ A 7 6 < x) hx]
    simp only [s_X4_total_0, s_X4_total_0n, s_X4_total_0z, s_X4_total_1, s_X4_total_2, s_X4_total_5, s_X4_total_5n, s_X4_total_5z, s_X4_total_6, s_X4_total_6n, s_X4_total_6z, s_X4_total_7n, s_X4_total_7, s_X4_total_7z, s_X4_total_10, s_X4_total_11, s_X4_total_14, s_X4_total_14n, s_X4_total_14z, s_X4_total_15, s_X4_total_18, tl_some, tl_none, cv_int, cv_ref, cv_null, cv_long, cat_rf, jcv_nil, jcat_cons, jv_none, jv_int, jv_ref, jv_null, jw_rf, rf_some, rf_none, bz_0, bz_1, i1_0, i0_0, if_true, if_false, ite_self, List.nil_append, List.cons_append, Nat.reduceAdd, Nat.reduceLeDiff, Nat.zero_le, Nat.le_refl, and_self, and_true, true_and, not_true_eq_false, not_false_eq_true, reduceIte, c1, hsn, if_neg (c := isS A x) hx]
theorem c_counter (hR : Rel sv ω t g I J P A T tb ub) : Ev sv (d + 1) (23, 0, [some (.ref (ω.1 0)), some (.int x)], []) (tv t u g I J P) Q ↔ Q (some (.int (if x = 0 then A 7 24 else if x = 1 then A 7 25 else if x = 2 then (if A 7 21 = 0 then 0 else 1) else if x = 3 then A 7 5 else if x = 4 then A 7 22 else if x = 5 then A 7 23 else if x = 6 then A 7 4 else -1))) (tv t u g I J P) := by
  obtain ⟨c1, c2, c3, c4, c5, c6, c7, c8, c9, c10, c11, c12, c13⟩ := hR.1
  have hLg := hR.2.2.1.1
  have hLg1 := hLg.1
  have hw := hR.2.2.2.2.2.2.2.1
  have hsz : I 1 2 (ω.1 1) = A 7 5 := by rw [hLg.2.2.1, hw.1.1]
  by_cases h0 : x = 0
  · subst h0
    simp only [s_X4_counter_0, s_X4_counter_1c0, s_X4_counter_1c1, s_X4_counter_1c2, s_X4_counter_1c3, s_X4_counter_1c4, s_X4_counter_1c5, s_X4_counter_1c6, s_X4_counter_1d, s_X4_counter_44, s_X4_counter_44n, s_X4_counter_44z, s_X4_counter_45, s_X4_counter_48, s_X4_counter_49, s_X4_counter_49n, s_X4_counter_49z, s_X4_counter_50, s_X4_counter_53, s_X4_counter_54, s_X4_counter_54n, s_X4_counter_54z, s_X4_counter_55, s_X4_counter_58, s_X4_counter_61, s_X4_counter_62, s_X4_counter_65, s_X4_counter_66, s_X4_counter_67, s_X4_counter_67n, s_X4_counter_67z, s_X4_counter_68, s_X4_counter_71, s_X4_counter_74, s_X4_counter_75, s_X4_counter_75n, s_X4_counter_75z, s_X4_counter_76, s_X4_counter_79, s_X4_counter_80, s_X4_counter_80n, s_X4_counter_80z, s_X4_counter_81, s_X4_counter_84, s_X4_counter_85, s_X4_counter_85n, s_X4_counter_85z, s_X4_counter_86, s_X4_counter_89, s_X4_counter_90, s_X4_counter_91, tl_some, tl_none, cv_int, cv_ref, cv_null, cv_long, cat_rf, jcv_nil, jcat_cons, jv_none, jv_int, jv_ref, jv_null, jw_rf, rf_some, rf_none, bz_0, bz_1, i1_0, i0_0, if_true, if_false, ite_self, List.nil_append, List.cons_append, Nat.reduceAdd, Nat.reduceLeDiff, Nat.zero_le, Nat.le_refl, and_self, and_true, true_and, not_true_eq_false, not_false_eq_true, reduceIte, c1, c10]
  by_cases h1 : x = 1
  · subst h1
    simp only [s_X4_counter_0, s_X4_counter_1c0, s_X4_counter_1c1, s_X4_counter_1c2, s_X4_counter_1c3, s_X4_counter_1c4, s_X4_counter_1c5, s_X4_counter_1c6, s_X4_counter_1d, s_X4_counter_44, s_X4_counter_44n, s_X4_counter_44z, s_X4_counter_45, s_X4_counter_48, s_X4_counter_49, s_X4_counter_49n, s_X4_counter_49z, s_X4_counter_50, s_X4_counter_53, s_X4_counter_54, s_X4_counter_54n, s_X4_counter_54z, s_X4_counter_55, s_X4_counter_58, s_X4_counter_61, s_X4_counter_62, s_X4_counter_65, s_X4_counter_66, s_X4_counter_67, s_X4_counter_67n, s_X4_counter_67z, s_X4_counter_68, s_X4_counter_71, s_X4_counter_74, s_X4_counter_75, s_X4_counter_75n, s_X4_counter_75z, s_X4_counter_76, s_X4_counter_79, s_X4_counter_80, s_X4_counter_80n, s_X4_counter_80z, s_X4_counter_81, s_X4_counter_84, s_X4_counter_85, s_X4_counter_85n, s_X4_counter_85z, s_X4_counter_86, s_X4_counter_89, s_X4_counter_90, s_X4_counter_91, tl_some, tl_none, cv_int, cv_ref, cv_null, cv_long, cat_rf, jcv_nil, jcat_cons, jv_none, jv_int, jv_ref, jv_null, jw_rf, rf_some, rf_none, bz_0, bz_1, i1_0, i0_0, if_true, if_false, ite_self, List.nil_append, List.cons_append, Nat.reduceAdd, Nat.reduceLeDiff, Nat.zero_le, Nat.le_refl, and_self, and_true, true_and, not_true_eq_false, not_false_eq_true, reduceIte, c1, c11]
    all_goals simp
  by_cases h2 : x = 2
  · subst h2
    by_cases hi : A 7 21 = 0
    · simp only [s_X4_counter_0, s_X4_counter_1c0, s_X4_counter_1c1, s_X4_counter_1c2, s_X4_counter_1c3, s_X4_counter_1c4, s_X4_counter_1c5, s_X4_counter_1c6, s_X4_counter_1d, s_X4_counter_44, s_X4_counter_44n, s_X4_counter_44z, s_X4_counter_45, s_X4_counter_48, s_X4_counter_49, s_X4_counter_49n, s_X4_counter_49z, s_X4_counter_50, s_X4_counter_53, s_X4_counter_54, s_X4_counter_54n, s_X4_counter_54z, s_X4_counter_55, s_X4_counter_58, s_X4_counter_61, s_X4_counter_62, s_X4_counter_65, s_X4_counter_66, s_X4_counter_67, s_X4_counter_67n, s_X4_counter_67z, s_X4_counter_68, s_X4_counter_71, s_X4_counter_74, s_X4_counter_75, s_X4_counter_75n, s_X4_counter_75z, s_X4_counter_76, s_X4_counter_79, s_X4_counter_80, s_X4_counter_80n, s_X4_counter_80z, s_X4_counter_81, s_X4_counter_84, s_X4_counter_85, s_X4_counter_85n, s_X4_counter_85z, s_X4_counter_86, s_X4_counter_89, s_X4_counter_90, s_X4_counter_91, tl_some, tl_none, cv_int, cv_ref, cv_null, cv_long, cat_rf, jcv_nil, jcat_cons, jv_none, jv_int, jv_ref, jv_null, jw_rf, rf_some, rf_none, bz_0, bz_1, i1_0, i0_0, if_true, if_false, ite_self, List.nil_append, List.cons_append, Nat.reduceAdd, Nat.reduceLeDiff, Nat.zero_le, Nat.le_refl, and_self, and_true, true_and, not_true_eq_false, not_false_eq_true, reduceIte, c1, c9, hi]
      all_goals simp
    · simp only [s_X4_counter_0, s_X4_counter_1c0, s_X4_counter_1c1, s_X4_counter_1c2, s_X4_counter_1c3, s_X4_counter_1c4, s_X4_counter_1c5, s_X4_counter_1c6, s_X4_counter_1d, s_X4_counter_44, s_X4_counter_44n, s_X4_counter_44z, s_X4_counter_45, s_X4_counter_48, s_X4_counter_49, s_X4_counter_49n, s_X4_counter_49z, s_X4_counter_50, s_X4_counter_53, s_X4_counter_54, s_X4_counter_54n, s_X4_counter_54z, s_X4_counter_55, s_X4_counter_58, s_X4_counter_61, s_X4_counter_62, s_X4_counter_65, s_X4_counter_66, s_X4_counter_67, s_X4_counter_67n, s_X4_counter_67z, s_X4_counter_68, s_X4_counter_71, s_X4_counter_74, s_X4_counter_75, s_X4_counter_75n, s_X4_counter_75z, s_X4_counter_76, s_X4_counter_79, s_X4_counter_80, s_X4_counter_80n, s_X4_counter_80z, s_X4_counter_81, s_X4_counter_84, s_X4_counter_85, s_X4_counter_85n, s_X4_counter_85z, s_X4_counter_86, s_X4_counter_89, s_X4_counter_90, s_X4_counter_91, tl_some, tl_none, cv_int, cv_ref, cv_null, cv_long, cat_rf, jcv_nil, jcat_cons, jv_none, jv_int, jv_ref, jv_null, jw_rf, rf_some, rf_none, bz_0, bz_1, i1_0, i0_0, if_true, if_false, ite_self, List.nil_append, List.cons_append, Nat.reduceAdd, Nat.reduceLeDiff, Nat.zero_le, Nat.le_refl, and_self, and_true, true_and, not_true_eq_false, not_false_eq_true, reduceIte, c1, c9, hi]
      all_goals simp
  by_cases h3 : x = 3
  · subst h3
    simp only [s_X4_counter_0, s_X4_counter_1c0, s_X4_counter_1c1, s_X4_counter_1c2, s_X4_counter_1c3, s_X4_counter_1c4, s_X4_counter_1c5, s_X4_counter_1c6, s_X4_counter_1d, s_X4_counter_44, s_X4_counter_44n, s_X4_counter_44z, s_X4_counter_45, s_X4_counter_48, s_X4_counter_49, s_X4_counter_49n, s_X4_counter_49z, s_X4_counter_50, s_X4_counter_53, s_X4_counter_54, s_X4_counter_54n, s_X4_counter_54z, s_X4_counter_55, s_X4_counter_58, s_X4_counter_61, s_X4_counter_62, s_X4_counter_65, s_X4_counter_66, s_X4_counter_67, s_X4_counter_67n, s_X4_counter_67z, s_X4_counter_68, s_X4_counter_71, s_X4_counter_74, s_X4_counter_75, s_X4_counter_75n, s_X4_counter_75z, s_X4_counter_76, s_X4_counter_79, s_X4_counter_80, s_X4_counter_80n, s_X4_counter_80z, s_X4_counter_81, s_X4_counter_84, s_X4_counter_85, s_X4_counter_85n, s_X4_counter_85z, s_X4_counter_86, s_X4_counter_89, s_X4_counter_90, s_X4_counter_91, tl_some, tl_none, cv_int, cv_ref, cv_null, cv_long, cat_rf, jcv_nil, jcat_cons, jv_none, jv_int, jv_ref, jv_null, jw_rf, rf_some, rf_none, bz_0, bz_1, i1_0, i0_0, if_true, if_false, ite_self, List.nil_append, List.cons_append, Nat.reduceAdd, Nat.reduceLeDiff, Nat.zero_le, Nat.le_refl, and_self, and_true, true_and, not_true_eq_false, not_false_eq_true, reduceIte, c1, c2, hLg1, l_size hLg1, hsz]
    all_goals simp
  by_cases h4 : x = 4
  · subst h4
    simp only [s_X4_counter_0, s_X4_counter_1c0, s_X4_counter_1c1, s_X4_counter_1c2, s_X4_counter_1c3, s_X4_counter_1c4, s_X4_counter_1c5, s_X4_counter_1c6, s_X4_counter_1d, s_X4_counter_44, s_X4_counter_44n, s_X4_counter_44z, s_X4_counter_45, s_X4_counter_48, s_X4_counter_49, s_X4_counter_49n, s_X4_counter_49z, s_X4_counter_50, s_X4_counter_53, s_X4_counter_54, s_X4_counter_54n, s_X4_counter_54z, s_X4_counter_55, s_X4_counter_58, s_X4_counter_61, s_X4_counter_62, s_X4_counter_65, s_X4_counter_66, s_X4_counter_67, s_X4_counter_67n, s_X4_counter_67z, s_X4_counter_68, s_X4_counter_71, s_X4_counter_74, s_X4_counter_75, s_X4_counter_75n, s_X4_counter_75z, s_X4_counter_76, s_X4_counter_79, s_X4_counter_80, s_X4_counter_80n, s_X4_counter_80z, s_X4_counter_81, s_X4_counter_84, s_X4_counter_85, s_X4_counter_85n, s_X4_counter_85z, s_X4_counter_86, s_X4_counter_89, s_X4_counter_90, s_X4_counter_91, tl_some, tl_none, cv_int, cv_ref, cv_null, cv_long, cat_rf, jcv_nil, jcat_cons, jv_none, jv_int, jv_ref, jv_null, jw_rf, rf_some, rf_none, bz_0, bz_1, i1_0, i0_0, if_true, if_false, ite_self, List.nil_append, List.cons_append, Nat.reduceAdd, Nat.reduceLeDiff, Nat.zero_le, Nat.le_refl, and_self, and_true, true_and, not_true_eq_false, not_false_eq_true, reduceIte, c1, c12]
    all_goals simp
  by_cases h5 : x = 5
  · subst h5
    simp only [s_X4_counter_0, s_X4_counter_1c0, s_X4_counter_1c1, s_X4_counter_1c2, s_X4_counter_1c3, s_X4_counter_1c4, s_X4_counter_1c5, s_X4_counter_1c6, s_X4_counter_1d, s_X4_counter_44, s_X4_counter_44n, s_X4_counter_44z, s_X4_counter_45, s_X4_counter_48, s_X4_counter_49, s_X4_counter_49n, s_X4_counter_49z, s_X4_counter_50, s_X4_counter_53, s_X4_counter_54, s_X4_counter_54n, s_X4_counter_54z, s_X4_counter_55, s_X4_counter_58, s_X4_counter_61, s_X4_counter_62, s_X4_counter_65, s_X4_counter_66, s_X4_counter_67, s_X4_counter_67n, s_X4_counter_67z, s_X4_counter_68, s_X4_counter_71, s_X4_counter_74, s_X4_counter_75, s_X4_counter_75n, s_X4_counter_75z, s_X4_counter_76, s_X4_counter_79, s_X4_counter_80, s_X4_counter_80n, s_X4_counter_80z, s_X4_counter_81, s_X4_counter_84, s_X4_counter_85, s_X4_counter_85n, s_X4_counter_85z, s_X4_counter_86, s_X4_counter_89, s_X4_counter_90, s_X4_counter_91, tl_some, tl_none, cv_int, cv_ref, cv_null, cv_long, cat_rf, jcv_nil, jcat_cons, jv_none, jv_int, jv_ref, jv_null, jw_rf, rf_some, rf_none, bz_0, bz_1, i1_0, i0_0, if_true, if_false, ite_self, List.nil_append, List.cons_append, Nat.reduceAdd, Nat.reduceLeDiff, Nat.zero_le, Nat.le_refl, and_self, and_true, true_and, not_true_eq_false, not_false_eq_true, reduceIte, c1, c13]
    all_goals simp
  by_cases h6 : x = 6
  · subst h6
    simp only [s_X4_counter_0, s_X4_counter_1c0, s_X4_counter_1c1, s_X4_counter_1c2, s_X4_counter_1c3, s_X4_counter_1c4, s_X4_counter_1c5, s_X4_counter_1c6, s_X4_counter_1d, s_X4_counter_44, s_X4_counter_44n, s_X4_counter_44z, s_X4_counter_45, s_X4_counter_48, s_X4_counter_49, s_X4_counter_49n, s_X4_counter_49z, s_X4_counter_50, s_X4_counter_53, s_X4_counter_54, s_X4_counter_54n, s_X4_counter_54z, s_X4_counter_55, s_X4_counter_58, s_X4_counter_61, s_X4_counter_62, s_X4_counter_65, s_X4_counter_66, s_X4_counter_67, s_X4_counter_67n, s_X4_counter_67z, s_X4_counter_68, s_X4_counter_71, s_X4_counter_74, s_X4_counter_75, s_X4_counter_75n, s_X4_counter_75z, s_X4_counter_76, s_X4_counter_79, s_X4_counter_80, s_X4_counter_80n, s_X4_counter_80z, s_X4_counter_81, s_X4_counter_84, s_X4_counter_85, s_X4_counter_85n, s_X4_counter_85z, s_X4_counter_86, s_X4_counter_89, s_X4_counter_90, s_X4_counter_91, tl_some, tl_none, cv_int, cv_ref, cv_null, cv_long, cat_rf, jcv_nil, jcat_cons, jv_none, jv_int, jv_ref, jv_null, jw_rf, rf_some, rf_none, bz_0, bz_1, i1_0, i0_0, if_true, if_false, ite_self, List.nil_append, List.cons_append, Nat.reduceAdd, Nat.reduceLeDiff, Nat.zero_le, Nat.le_refl, and_self, and_true, true_and, not_true_eq_false, not_false_eq_true, reduceIte, c1, c8]
    all_goals simp
  have hx : x.toInt < 0 ∨ 6 < x.toInt := by
    by_cases q1 : x.toInt < 0
    · exact Or.inl q1
    by_cases q2 : 6 < x.toInt
    · exact Or.inr q2
    exfalso
    have hq : x.toInt = 0 ∨ x.toInt = 1 ∨ x.toInt = 2 ∨ x.toInt = 3 ∨ x.toInt = 4 ∨ x.toInt = 5 ∨ x.toInt = 6 := by omega
    rcases hq with q | q | q | q | q | q | q
    · exact h0 (Int32.toInt_inj.mp q)
    · exact h1 (Int32.toInt_inj.mp q)
    · exact h2 (Int32.toInt_inj.mp q)
    · exact h3 (Int32.toInt_inj.mp q)
    · exact h4 (Int32.toInt_inj.mp q)
    · exact h5 (Int32.toInt_inj.mp q)
    · exact h6 (Int32.toInt_inj.mp q)
  rw [if_neg h0, if_neg h1, if_neg h2, if_neg h3, if_neg h4, if_neg h5, if_neg h6]
  simp only [s_X4_counter_0, s_X4_counter_1d hx, s_X4_counter_90, s_X4_counter_91, tl_some, tl_none, cv_int, cv_ref, cv_null, cv_long, cat_rf, jcv_nil, jcat_cons, jv_none, jv_int, jv_ref, jv_null, jw_rf, rf_some, rf_none, bz_0, bz_1, i1_0, i0_0, if_true, if_false, ite_self, List.nil_append, List.cons_append, Nat.reduceAdd, Nat.reduceLeDiff, Nat.zero_le, Nat.le_refl, and_self, and_true, true_and, not_true_eq_false, not_false_eq_true, reduceIte]
theorem c_suppress (hR : Rel sv ω t g I J P A T tb ub) (hV : Inv ω I A st)
    (K2 : ¬ isG A x → Q (some (.int (-2))) (tv t u g I J P))
    (K0 : isG A x → ¬ A 71 x.toNatClampNeg = 0 → Rel sv ω t g I J P (upA (cdA A) 71 x.toNatClampNeg 1) T tb ub → Inv ω I (upA (cdA A) 71 x.toNatClampNeg 1) st → Q (some (.int 0)) (tv t u g I J P))
    (K1 : isG A x → A 71 x.toNatClampNeg = 0 → ∀ I', Rel sv ω t g I' J P (upA (cdA A) 71 x.toNatClampNeg 1) T tb ub → Nx t u g I J P tb ub t u g I' J P tb ub → Inv ω I' (upA (cdA A) 71 x.toNatClampNeg 1) st → Q (some (.int 1)) (tv t u g I' J P)) :
    Ev sv (d + 4) (24, 0, [some (.ref (ω.1 0)), some (.int x), none], []) (tv t u g I J P) Q := by
  have c1 := hR.1.1
  have hw := hR.2.2.2.2.2.2.2.1
  have h20 := hw.1
  have hgn := fun (Q : Option Value → jM → Prop) => c_groupNumbered (Q := Q) (sv := sv) (d := d) (u := u) (x := x) hR
  by_cases hx : isG A x
  · have hr := nI_range hx.1 (by rw [← h20.1]; exact hx.2) (by omega)
    obtain ⟨i, hi⟩ : ∃ i, x.toNatClampNeg = i + 1 := ⟨x.toNatClampNeg - 1, by omega⟩
    have hgi : i < ngA A := by omega
    rw [hi] at K0 K1
    have ei : x.toNatClampNeg - 1 = i := by omega
    obtain ⟨g1, g2, g3, g4, g5, g6, g7, g8, g9, g10, g11, g12⟩ := hR.2.2.1.2.1 i hgi
    have hIc := hV.cd
    have oA : ∀ κ j, κ ≠ 71 → upA (cdA A) 71 (i + 1) 1 κ j = cdA A κ j := fun κ j h => if_neg (fun q => h q.1)
    have hI1 : ∀ I' : tI, I' 6 12 (ω.1 0) = I 6 12 (ω.1 0) ∧ I' 6 15 (ω.1 0) = I 6 15 (ω.1 0) → (∀ b, I' 2 9 b = I 2 9 b) → Inv ω I' (upA (cdA A) 71 (i + 1) 1) st := fun I' a1 a2 => hIc.on (hIc.1.cg (fun κ j h => oA κ j (by omega))) hIc.2.1 (hIc.2.2.1.cg (fun κ j h => oA κ j (by omega))) rfl a1 a2 (fun j => ⟨rfl, rfl⟩) (fun j h => rfl)
    -- the cells say so
    have hRel : ∀ I' : tI, (∀ κ, κ ≠ 2 → I' κ = I κ) → (∀ k b, k ≠ 7 → I' 2 k b = I 2 k b) → (∀ j, j < ngA A → (I' 2 7 (ω.2.1 j) = 0 ↔ (if j = i then (1 : Int32) else A 71 (j + 1)) = 0)) → Rel sv ω t g I' J P (upA (cdA A) 71 (i + 1) 1) T tb ub := by
      intro I' a1 a2 a3
      obtain ⟨hC, hV1, hG, hS, hP, hD, htg, hw, hl, hs⟩ := hR.cd
      have o6 := a1 6 (by decide)
      refine ⟨by unfold RC; rw [o6]; exact hC, hV1.congr (fun j => rfl) (fun j => rfl) (a1 60 (by decide)) (a1 61 (by decide)) rfl (gle_rf g), ?_, hS.congr (fun κ j h => oA κ j (by omega)) rfl (fun n f h => h.congr (by rw [a1 1 (by decide)]) rfl (fun _ _ => rfl) (gle_rf g)) (a1 5 (by decide)) rfl (gle_rf g), hP.congr (fun j => rfl) rfl (a1 1 (by decide)) (a1 3 (by decide)) (a1 63 (by decide)), hD, htg, (fr_up (fr_rf (cdA A)) rfl : fr (cdA A) (upA (cdA A) 71 (i + 1) 1)).wf hw, hl, hs⟩
      obtain ⟨h1, h2, h3, h4⟩ := hG
      refine ⟨h1.congr (by rw [a1 1 (by decide)]) rfl (fun _ _ => rfl) (gle_rf g), fun j hj => ?_, h3, h4⟩
      have hj' : j < ngA A := hj
      obtain ⟨k1, k2, k3, k4, k5, k6, k7, k8, k9, k10, k11, k12⟩ := h2 j hj'
      refine ⟨k1, k2, k3, k4, by rw [a2 0 _ (by decide)]; exact k5, by rw [a2 1 _ (by decide)]; exact k6, by rw [a2 2 _ (by decide)]; exact k7, by rw [a2 5 _ (by decide)]; exact k8, ?_, by rw [a2 8 _ (by decide)]; exact k10, ?_, ?_⟩
      · have e : upA (cdA A) 71 (i + 1) 1 71 (j + 1) = if j = i then (1 : Int32) else A 71 (j + 1) := by
          rw [upA_ap]
          by_cases h : j = i
          · rw [if_pos ⟨rfl, by omega⟩, if_pos h]
          · rw [if_neg (fun q => by omega), if_neg h]
            rfl
        rw [e]
        exact a3 j hj'
      · rw [a2 3 _ (by decide), a2 4 _ (by decide)]
        exact k11
      · intro q hq
        rw [a1 62 (by decide), lat_congr (A := cdA A) (B := upA (cdA A) 71 (i + 1) 1) (fun j => oA 69 j (by decide))]
        exact k12 q hq
    by_cases h71 : A 71 (i + 1) = 0
    · have g9' := g9.mpr h71
      simp only [s_X4_suppress_0, s_X4_suppress_0n, s_X4_suppress_0z, s_X4_suppress_1, s_X4_suppress_2, s_X4_suppress_5, s_X4_suppress_5n, s_X4_suppress_5z, s_X4_suppress_6, s_X4_suppress_6n, s_X4_suppress_6z, s_X4_suppress_7n, s_X4_suppress_7, s_X4_suppress_7z, s_X4_suppress_10, s_X4_suppress_12, s_X4_suppress_13, s_X4_suppress_13n, s_X4_suppress_13z, s_X4_suppress_14, s_X4_suppress_17, s_X4_suppress_20, s_X4_suppress_21, s_X4_suppress_22, s_X4_suppress_22n, s_X4_suppress_22z, s_X4_suppress_23, s_X4_suppress_24, s_X4_suppress_27, s_X4_suppress_28, tl_some, tl_none, cv_int, cv_ref, cv_null, cv_long, cat_rf, jcv_nil, jcat_cons, jv_none, jv_int, jv_ref, jv_null, jw_rf, rf_some, rf_none, bz_0, bz_1, i1_0, i0_0, if_true, if_false, ite_self, List.nil_append, List.cons_append, Nat.reduceAdd, Nat.reduceLeDiff, Nat.zero_le, Nat.le_refl, and_self, and_true, true_and, not_true_eq_false, not_false_eq_true, reduceIte, c1, hgn, if_pos (c := isG A x) hx, ei, g1, g9']
      have e9 : ∀ b, ups I 2 7 (ω.2.1 i) 1 2 9 b = I 2 9 b := fun b => by rw [ups_ap, if_neg (fun q => absurd q.2.1 (by decide))]
      refine K1 hx h71 _ (hRel _ (fun κ h => ups_o h) (fun k b hk => by rw [ups_ap, if_neg (fun q => hk q.2.1)]) (fun j hj => ?_)) (Nx_I (fun κ hκ => ups_o (by omega))) (hI1 _ ⟨rfl, rfl⟩ e9)
      rw [ups_ap]
      by_cases h : j = i
      · rw [if_pos ⟨rfl, rfl, by rw [h]⟩, if_pos h]
      · rw [if_neg (fun q => h (hR.2.2.1.2.2.1 j i hj hgi q.2.2)), if_neg h]
        exact (hR.2.2.1.2.1 j hj).2.2.2.2.2.2.2.2.1
    · have g9' : ¬ I 2 7 (ω.2.1 i) = 0 := fun q => h71 (g9.mp q)
      simp only [s_X4_suppress_0, s_X4_suppress_0n, s_X4_suppress_0z, s_X4_suppress_1, s_X4_suppress_2, s_X4_suppress_5, s_X4_suppress_5n, s_X4_suppress_5z, s_X4_suppress_6, s_X4_suppress_6n, s_X4_suppress_6z, s_X4_suppress_7n, s_X4_suppress_7, s_X4_suppress_7z, s_X4_suppress_10, s_X4_suppress_12, s_X4_suppress_13, s_X4_suppress_13n, s_X4_suppress_13z, s_X4_suppress_14, s_X4_suppress_17, s_X4_suppress_20, s_X4_suppress_21, s_X4_suppress_22, s_X4_suppress_22n, s_X4_suppress_22z, s_X4_suppress_23, s_X4_suppress_24, s_X4_suppress_27, s_X4_suppress_28, tl_some, tl_none, cv_int, cv_ref, cv_null, cv_long, cat_rf, jcv_nil, jcat_cons, jv_none, jv_int, jv_ref, jv_null, jw_rf, rf_some, rf_none, bz_0, bz_1, i1_0, i0_0, if_true, if_false, ite_self, List.nil_append, List.cons_append, Nat.reduceAdd, Nat.reduceLeDiff, Nat.zero_le, Nat.le_refl, and_self, and_true, true_and, not_true_eq_false, not_false_eq_true, reduceIte, c1, hgn, if_pos (c := isG A x) hx, ei, g1, g9']
      refine K0 hx h71 (hRel _ (fun κ h => rfl) (fun k b hk => rfl) (fun j hj => ?_)) (hI1 _ ⟨rfl, rfl⟩ (fun _ => rfl))
      by_cases h : j = i
      · rw [if_pos h, h]
        exact ⟨fun q => absurd q g9', fun q => absurd q (by decide)⟩
      · rw [if_neg h]
        exact (hR.2.2.1.2.1 j hj).2.2.2.2.2.2.2.2.1
  · simp only [s_X4_suppress_0, s_X4_suppress_0n, s_X4_suppress_0z, s_X4_suppress_1, s_X4_suppress_2, s_X4_suppress_5, s_X4_suppress_5n, s_X4_suppress_5z, s_X4_suppress_6, s_X4_suppress_6n, s_X4_suppress_6z, s_X4_suppress_7n, s_X4_suppress_7, s_X4_suppress_7z, s_X4_suppress_10, s_X4_suppress_12, s_X4_suppress_13, s_X4_suppress_13n, s_X4_suppress_13z, s_X4_suppress_14, s_X4_suppress_17, s_X4_suppress_20, s_X4_suppress_21, s_X4_suppress_22, s_X4_suppress_22n, s_X4_suppress_22z, s_X4_suppress_23, s_X4_suppress_24, s_X4_suppress_27, s_X4_suppress_28, tl_some, tl_none, cv_int, cv_ref, cv_null, cv_long, cat_rf, jcv_nil, jcat_cons, jv_none, jv_int, jv_ref, jv_null, jw_rf, rf_some, rf_none, bz_0, bz_1, i1_0, i0_0, if_true, if_false, ite_self, List.nil_append, List.cons_append, Nat.reduceAdd, Nat.reduceLeDiff, Nat.zero_le, Nat.le_refl, and_self, and_true, true_and, not_true_eq_false, not_false_eq_true, reduceIte, c1, hgn, if_neg (c := isG A x) hx]
    exact K2 hx
end
