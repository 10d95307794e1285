-- ===== where lines fit =====
def topm (A : Nat → Nat → Int32) (k : Int32) : Int32 := if k = 2 ∨ k = 3 ∨ k = 4 then A 7 2 else if k = 5 then A 7 3 + 1 else 1
def lowm (A : Nat → Nat → Int32) (k : Int32) : Int32 := if k = 2 ∨ k = 3 ∨ k = 4 then A 7 3 else if k = 0 ∨ k = 1 then A 7 2 - 1 else A 7 1
/-- the class's question -/
abbrev fitC (A : Nat → Nat → Int32) (gi : Nat) (n rel : Int32) : Prop := if mnA A gi = 0 then ¬ f8 A gi n rel < topm A (A 66 gi) ∧ ¬ lowm A (A 66 gi) < f8 A gi n rel else ¬ lowm A (A 66 gi) < f9 A gi n rel
theorem f8_0 {A : Nat → Nat → Int32} {gi : Nat} {n rel : Int32} (h : A 68 gi = 0) : f8 A gi n rel = if rel = 0 then n else if A 66 gi = 2 ∨ A 66 gi = 3 ∨ A 66 gi = 4 then A 7 2 else if A 66 gi = 5 then A 7 3 + n else n := by
  unfold f8 f7 f6 f5
  rw [if_pos h, if_pos h]
  by_cases hr : rel = 0
  · rw [if_pos hr, if_neg (by decide), if_pos hr]
  · rw [if_neg hr, if_pos rfl, if_neg hr]
    by_cases hi : inb A gi
    · rw [if_pos hi, if_pos (c := A 66 gi = 2 ∨ A 66 gi = 3 ∨ A 66 gi = 4) hi]
    · rw [if_neg hi, if_neg (c := A 66 gi = 2 ∨ A 66 gi = 3 ∨ A 66 gi = 4) hi]
      by_cases h5 : A 66 gi = 5
      · rw [if_pos h5, if_pos h5]
      · rw [if_neg h5, if_neg h5, Int32.zero_add]
theorem f8_1 {A : Nat → Nat → Int32} {gi : Nat} {n rel : Int32} (h : ¬ A 68 gi = 0) : f8 A gi n rel = stN A gi := by
  unfold f8 f7 f6 f5 stN
  rw [if_neg h, if_neg h]
  by_cases h7 : A 70 gi = 0
  · rw [if_pos h7, if_pos h7]
    by_cases hi : inb A gi
    · rw [if_pos hi, if_pos hi]
    · rw [if_neg hi, if_neg hi]
      by_cases h5 : A 66 gi = 5
      · rw [if_pos h5, if_pos h5]
      · rw [if_neg h5, if_neg h5, Int32.zero_add]
  · rw [if_neg h7, if_neg h7]
theorem fit_same {A : Nat → Nat → Int32} (hw : WfA A) (hp : WfP A) (hL : WfL A) {gi : Nat} (h1 : 1 ≤ gi) (h2 : gi ≤ ngA A) {y : Nat} (hy1 : 1 ≤ y) (hy2 : y ≤ 100) {z : Int32} : fitA A gi (nI y) z ↔ fitC A gi (nI y) z := by
  obtain ⟨p0, f0, e0, hp1, hp2, hf1, hf2, hf3, he1, he2⟩ := hp.1
  obtain ⟨hk, hab⟩ := hL gi h1 h2
  have hmn := hw.2.2.2.1 gi
  have hfm : A 7 2 - 1 = nI (f0 - 1) := by rw [hf1]; exact pk_sub (a := f0) (b := 1) hf2
  have hep : A 7 3 + 1 = nI (e0 + 1) := by rw [he1, nIs]
  -- the numbers
  have N : ∃ s8 s9, f8 A gi (nI y) z = nI s8 ∧ f9 A gi (nI y) z = nI s9 ∧ 1 ≤ s8 ∧ s8 ≤ 1000 ∧ s8 ≤ s9 ∧ s9 ≤ 3000 ∧ (mnA A gi = 0 → s9 = s8) ∧ (¬ mnA A gi = 0 → inb A gi → f0 ≤ s8) ∧ (A 66 gi = 5 → ¬ mnA A gi = 0 → e0 < s8) := by
    by_cases h0 : mnA A gi = 0
    · have h68 : A 68 gi = 0 := by rw [hmn.1, h0]; rfl
      have hlt : ¬ (0 : Int32) < A 68 gi := by rw [h68]; decide
      have e9 : f9 A gi (nI y) z = f8 A gi (nI y) z := by
        unfold f9
        rw [if_neg hlt, h0, Int32.add_zero]
        rfl
      rw [e9, f8_0 h68]
      by_cases hr : z = 0
      · rw [if_pos hr]
        exact ⟨y, y, rfl, rfl, hy1, by omega, by omega, by omega, fun _ => rfl, fun q => absurd h0 q, fun _ q => absurd h0 q⟩
      · rw [if_neg hr]
        by_cases hi : A 66 gi = 2 ∨ A 66 gi = 3 ∨ A 66 gi = 4
        · rw [if_pos hi, hf1]
          exact ⟨f0, f0, rfl, rfl, hf2, by omega, by omega, by omega, fun _ => rfl, fun q => absurd h0 q, fun _ q => absurd h0 q⟩
        · rw [if_neg hi]
          by_cases h5 : A 66 gi = 5
          · rw [if_pos h5, he1, nI_add]
            exact ⟨e0 + y, e0 + y, rfl, rfl, by omega, by omega, by omega, by omega, fun _ => rfl, fun q => absurd h0 q, fun _ q => absurd h0 q⟩
          · rw [if_neg h5]
            exact ⟨y, y, rfl, rfl, hy1, by omega, by omega, by omega, fun _ => rfl, fun q => absurd h0 q, fun _ q => absurd h0 q⟩
    · have h68 : ¬ A 68 gi = 0 := by rw [hmn.1]; exact nIz h0 (by omega)
      have hlt : (0 : Int32) < A 68 gi := by rw [hmn.1]; exact nI_lt (a := 0) (by omega) (by omega)
      obtain ⟨w, hw1, hw2, hw3⟩ := hp.2.1 gi h1 h2 0 (by omega)
      have hw1 : A 69 (10 * gi) = nI w := hw1
      have F : ∃ s8, f8 A gi (nI y) z = nI s8 ∧ 1 ≤ s8 ∧ s8 ≤ 1000 ∧ (inb A gi → f0 ≤ s8) ∧ (A 66 gi = 5 → e0 < s8) := by
        rw [f8_1 h68]
        unfold stN
        by_cases h7 : A 70 gi = 0
        · rw [if_pos h7]
          by_cases hi : inb A gi
          · rw [if_pos hi, hf1]
            exact ⟨f0, rfl, hf2, by omega, fun _ => Nat.le_refl _, fun q => by
              rcases hi with h | h | h <;> rw [q] at h <;> exact absurd h (by decide)⟩
          · rw [if_neg hi]
            by_cases h5 : A 66 gi = 5
            · rw [if_pos h5, he1, hw1, nI_add]
              exact ⟨e0 + w, rfl, by omega, by omega, fun q => absurd q hi, fun _ => by omega⟩
            · rw [if_neg h5, hw1]
              exact ⟨w, rfl, hw2, by omega, fun q => absurd q hi, fun q => absurd q h5⟩
        · rw [if_neg h7, hw1]
          obtain ⟨a1, a2⟩ := hab (by omega) h7
          rw [hf1, hw1] at a1
          rw [he1, hw1] at a2
          refine ⟨w, rfl, hw2, by omega, fun q => ?_, fun q => ?_⟩
          · by_cases c : f0 ≤ w
            · exact c
            · exact absurd (nI_lt (a := w) (b := f0) (by omega) (by omega)) (a1 q)
          · exact (nI_ltI (by omega) (by omega)).mp (a2 q)
      obtain ⟨s8, b1, b2, b3, b4, b5⟩ := F
      obtain ⟨s, h7, h8⟩ := lat_nI (a := s8) (hp.2.1 gi h1 h2) (mnA A gi - 1) (by omega)
      refine ⟨s8, s8 + s + y, b1, ?_, b2, b3, by omega, by omega, fun q => absurd q h0, fun _ => b4, fun q _ => b5 q⟩
      unfold f9
      rw [b1, h7, if_pos hlt, nI_add]
  obtain ⟨s8, s9, n1, n2, n3, n4, n5, n6, n7, n8, n9⟩ := N
  unfold fitA fitC topm lowm
  rw [n1, n2, hfm, hep, hf1, he1, hp1]
  have L : ∀ a b : Nat, a ≤ 3000 → b ≤ 3000 → (nI a < nI b ↔ a < b) := fun a b ha hb => nI_ltI (by omega) (by omega)
  have i1 : (1 : Int32) = nI 1 := rfl
  by_cases h01 : A 66 gi = 0 ∨ A 66 gi = 1
  · have hni : ¬ (A 66 gi = 2 ∨ A 66 gi = 3 ∨ A 66 gi = 4) := by
      rcases h01 with h | h <;> rw [h] <;> decide
    have hn5 : ¬ A 66 gi = 5 := by
      rcases h01 with h | h <;> rw [h] <;> decide
    rw [if_pos h01, if_neg hni, if_neg hn5, if_neg hni, if_pos h01, i1, L _ _ (by omega) (by omega), L _ _ (by omega) (by omega), L _ _ (by omega) (by omega), L _ _ (by omega) (by omega)]
    by_cases h0 : mnA A gi = 0
    · have := n7 h0
      rw [if_pos h0]
      omega
    · rw [if_neg h0]
      omega
  · rw [if_neg h01]
    by_cases hi : A 66 gi = 2 ∨ A 66 gi = 3 ∨ A 66 gi = 4
    · rw [if_pos (c := inb A gi) hi, if_pos hi, if_pos hi, L _ _ (by omega) (by omega), L _ _ (by omega) (by omega), L _ _ (by omega) (by omega)]
      by_cases h0 : mnA A gi = 0
      · have := n7 h0
        rw [if_pos h0]
        omega
      · have := n8 h0 hi
        rw [if_neg h0]
        omega
    · rw [if_neg (c := inb A gi) hi, if_neg hi, if_neg hi, if_neg h01]
      by_cases h5 : A 66 gi = 5
      · have h6 : ¬ A 66 gi = 6 := by rw [h5]; decide
        rw [if_pos h5, L _ _ (by omega) (by omega), L _ _ (by omega) (by omega), L _ _ (by omega) (by omega), L _ _ (by omega) (by omega)]
        by_cases h0 : mnA A gi = 0
        · have := n7 h0
          rw [if_pos h0]
          constructor
          · intro q
            have q1 := q.1.resolve_left h6
            omega
          · intro q
            exact ⟨Or.inr (by omega), by omega⟩
        · have := n9 h5 h0
          rw [if_neg h0]
          constructor
          · intro q
            exact q.2
          · intro q
            exact ⟨Or.inr (by omega), q⟩
      · have h6 : A 66 gi = 6 := by
          rcases hk with h | h | h | h | h | h | h
          · exact absurd (Or.inl h) h01
          · exact absurd (Or.inr h) h01
          · exact absurd (Or.inl h) hi
          · exact absurd (Or.inr (Or.inl h)) hi
          · exact absurd (Or.inr (Or.inr h)) hi
          · exact absurd h h5
          · exact h
        rw [if_neg h5, i1, L _ _ (by omega) (by omega), L _ _ (by omega) (by omega), L _ _ (by omega) (by omega), L _ _ (by omega) (by omega)]
        by_cases h0 : mnA A gi = 0
        · have := n7 h0
          rw [if_pos h0]
          constructor
          · intro q
            have := q.2
            omega
          · intro q
            exact ⟨Or.inl h6, by omega⟩
        · rw [if_neg h0]
          exact ⟨fun q => q.2, fun q => ⟨Or.inl h6, q⟩⟩
section
variable {sv : Nat → Value} {d t u : Nat} {Q : Option Value → jM → Prop} {g : jG} {I I' : tI} {J : tJ} {P : tP} {A B : Nat → Nat → Int32} {T T' : Nat → Int64} {ω : Wd} {tb ub st : Nat} {x y z : Int32}
theorem c_topmost (hR : Rel sv ω t g I J P A T tb ub) : Ev sv (d + 1) (34, 0, [some (.ref (ω.1 0)), some (.int x)], []) (tv t u g I J P) Q ↔ Q (some (.int (topm A x))) (tv t u g I J P) := by
  have c1 := hR.1.1
  have c6 := hR.1.2.2.2.2.2.1
  have c7 := hR.1.2.2.2.2.2.2.1
  unfold topm
  by_cases h2 : x = 2 ∨ x = 3 ∨ x = 4
  · simp only [s_X4_topmostLine_0, s_X4_topmostLine_1, s_X4_topmostLine_4, s_X4_topmostLine_7, s_X4_topmostLine_7n, s_X4_topmostLine_7z, s_X4_topmostLine_8, s_X4_topmostLine_11, s_X4_topmostLine_12, s_X4_topmostLine_13, s_X4_topmostLine_14, s_X4_topmostLine_17, s_X4_topmostLine_17n, s_X4_topmostLine_17z, s_X4_topmostLine_18, s_X4_topmostLine_21, s_X4_topmostLine_22, s_X4_topmostLine_23, s_X4_topmostLine_26, s_X4_topmostLine_27, tl_some, tl_none, cv_int, cv_ref, cv_null, cv_long, cat_rf, jcv_nil, jcat_cons, jv_none, jv_int, jv_ref, jv_null, jw_rf, rf_some, rf_none, bz_0, bz_1, i1_0, i0_0, if_true, if_false, ite_self, List.nil_append, List.cons_append, Nat.reduceAdd, Nat.reduceLeDiff, Nat.zero_le, Nat.le_refl, and_self, and_true, true_and, not_true_eq_false, not_false_eq_true, reduceIte, c_isOfBody, if_pos h2, c1, c6]
  by_cases h3 : x = 5
  · simp only [s_X4_topmostLine_0, s_X4_topmostLine_1, s_X4_topmostLine_4, s_X4_topmostLine_7, s_X4_topmostLine_7n, s_X4_topmostLine_7z, s_X4_topmostLine_8, s_X4_topmostLine_11, s_X4_topmostLine_12, s_X4_topmostLine_13, s_X4_topmostLine_14, s_X4_topmostLine_17, s_X4_topmostLine_17n, s_X4_topmostLine_17z, s_X4_topmostLine_18, s_X4_topmostLine_21, s_X4_topmostLine_22, s_X4_topmostLine_23, s_X4_topmostLine_26, s_X4_topmostLine_27, tl_some, tl_none, cv_int, cv_ref, cv_null, cv_long, cat_rf, jcv_nil, jcat_cons, jv_none, jv_int, jv_ref, jv_null, jw_rf, rf_some, rf_none, bz_0, bz_1, i1_0, i0_0, if_true, if_false, ite_self, List.nil_append, List.cons_append, Nat.reduceAdd, Nat.reduceLeDiff, Nat.zero_le, Nat.le_refl, and_self, and_true, true_and, not_true_eq_false, not_false_eq_true, reduceIte, c_isOfBody, if_neg h2, c1, c7, if_pos h3]
  · simp only [s_X4_topmostLine_0, s_X4_topmostLine_1, s_X4_topmostLine_4, s_X4_topmostLine_7, s_X4_topmostLine_7n, s_X4_topmostLine_7z, s_X4_topmostLine_8, s_X4_topmostLine_11, s_X4_topmostLine_12, s_X4_topmostLine_13, s_X4_topmostLine_14, s_X4_topmostLine_17, s_X4_topmostLine_17n, s_X4_topmostLine_17z, s_X4_topmostLine_18, s_X4_topmostLine_21, s_X4_topmostLine_22, s_X4_topmostLine_23, s_X4_topmostLine_26, s_X4_topmostLine_27, tl_some, tl_none, cv_int, cv_ref, cv_null, cv_long, cat_rf, jcv_nil, jcat_cons, jv_none, jv_int, jv_ref, jv_null, jw_rf, rf_some, rf_none, bz_0, bz_1, i1_0, i0_0, if_true, if_false, ite_self, List.nil_append, List.cons_append, Nat.reduceAdd, Nat.reduceLeDiff, Nat.zero_le, Nat.le_refl, and_self, and_true, true_and, not_true_eq_false, not_false_eq_true, reduceIte, c_isOfBody, if_neg h2, h3]
theorem c_lowest (hR : Rel sv ω t g I J P A T tb ub) : Ev sv (d + 1) (35, 0, [some (.ref (ω.1 0)), some (.int x)], []) (tv t u g I J P) Q ↔ Q (some (.int (lowm A x))) (tv t u g I J P) := by
  have c1 := hR.1.1
  have c5 := hR.1.2.2.2.2.1
  have c6 := hR.1.2.2.2.2.2.1
  have c7 := hR.1.2.2.2.2.2.2.1
  unfold lowm
  by_cases h2 : x = 2 ∨ x = 3 ∨ x = 4
  · simp only [s_X4_lowestLine_0, s_X4_lowestLine_1, s_X4_lowestLine_4, s_X4_lowestLine_7, s_X4_lowestLine_7n, s_X4_lowestLine_7z, s_X4_lowestLine_8, s_X4_lowestLine_11, s_X4_lowestLine_12, s_X4_lowestLine_13, s_X4_lowestLine_16, s_X4_lowestLine_17, s_X4_lowestLine_18, s_X4_lowestLine_21, s_X4_lowestLine_21n, s_X4_lowestLine_21z, s_X4_lowestLine_22, s_X4_lowestLine_25, s_X4_lowestLine_26, s_X4_lowestLine_27, s_X4_lowestLine_30, s_X4_lowestLine_30n, s_X4_lowestLine_30z, s_X4_lowestLine_31, s_X4_lowestLine_34, tl_some, tl_none, cv_int, cv_ref, cv_null, cv_long, cat_rf, jcv_nil, jcat_cons, jv_none, jv_int, jv_ref, jv_null, jw_rf, rf_some, rf_none, bz_0, bz_1, i1_0, i0_0, if_true, if_false, ite_self, List.nil_append, List.cons_append, Nat.reduceAdd, Nat.reduceLeDiff, Nat.zero_le, Nat.le_refl, and_self, and_true, true_and, not_true_eq_false, not_false_eq_true, reduceIte, c_isOfBody, if_pos h2, c1, c7]
  by_cases h0 : x = 0
  · simp only [s_X4_lowestLine_0, s_X4_lowestLine_1, s_X4_lowestLine_4, s_X4_lowestLine_7, s_X4_lowestLine_7n, s_X4_lowestLine_7z, s_X4_lowestLine_8, s_X4_lowestLine_11, s_X4_lowestLine_12, s_X4_lowestLine_13, s_X4_lowestLine_16, s_X4_lowestLine_17, s_X4_lowestLine_18, s_X4_lowestLine_21, s_X4_lowestLine_21n, s_X4_lowestLine_21z, s_X4_lowestLine_22, s_X4_lowestLine_25, s_X4_lowestLine_26, s_X4_lowestLine_27, s_X4_lowestLine_30, s_X4_lowestLine_30n, s_X4_lowestLine_30z, s_X4_lowestLine_31, s_X4_lowestLine_34, tl_some, tl_none, cv_int, cv_ref, cv_null, cv_long, cat_rf, jcv_nil, jcat_cons, jv_none, jv_int, jv_ref, jv_null, jw_rf, rf_some, rf_none, bz_0, bz_1, i1_0, i0_0, if_true, if_false, ite_self, List.nil_append, List.cons_append, Nat.reduceAdd, Nat.reduceLeDiff, Nat.zero_le, Nat.le_refl, and_self, and_true, true_and, not_true_eq_false, not_false_eq_true, reduceIte, c_isOfBody, if_neg h2, c1, c6, h0, true_or]
    all_goals simp
  by_cases h1 : x = 1
  · simp only [s_X4_lowestLine_0, s_X4_lowestLine_1, s_X4_lowestLine_4, s_X4_lowestLine_7, s_X4_lowestLine_7n, s_X4_lowestLine_7z, s_X4_lowestLine_8, s_X4_lowestLine_11, s_X4_lowestLine_12, s_X4_lowestLine_13, s_X4_lowestLine_16, s_X4_lowestLine_17, s_X4_lowestLine_18, s_X4_lowestLine_21, s_X4_lowestLine_21n, s_X4_lowestLine_21z, s_X4_lowestLine_22, s_X4_lowestLine_25, s_X4_lowestLine_26, s_X4_lowestLine_27, s_X4_lowestLine_30, s_X4_lowestLine_30n, s_X4_lowestLine_30z, s_X4_lowestLine_31, s_X4_lowestLine_34, tl_some, tl_none, cv_int, cv_ref, cv_null, cv_long, cat_rf, jcv_nil, jcat_cons, jv_none, jv_int, jv_ref, jv_null, jw_rf, rf_some, rf_none, bz_0, bz_1, i1_0, i0_0, if_true, if_false, ite_self, List.nil_append, List.cons_append, Nat.reduceAdd, Nat.reduceLeDiff, Nat.zero_le, Nat.le_refl, and_self, and_true, true_and, not_true_eq_false, not_false_eq_true, reduceIte, c_isOfBody, if_neg h2, c1, c6, h1, h0, or_true]
    all_goals simp
  · simp only [s_X4_lowestLine_0, s_X4_lowestLine_1, s_X4_lowestLine_4, s_X4_lowestLine_7, s_X4_lowestLine_7n, s_X4_lowestLine_7z, s_X4_lowestLine_8, s_X4_lowestLine_11, s_X4_lowestLine_12, s_X4_lowestLine_13, s_X4_lowestLine_16, s_X4_lowestLine_17, s_X4_lowestLine_18, s_X4_lowestLine_21, s_X4_lowestLine_21n, s_X4_lowestLine_21z, s_X4_lowestLine_22, s_X4_lowestLine_25, s_X4_lowestLine_26, s_X4_lowestLine_27, s_X4_lowestLine_30, s_X4_lowestLine_30n, s_X4_lowestLine_30z, s_X4_lowestLine_31, s_X4_lowestLine_34, tl_some, tl_none, cv_int, cv_ref, cv_null, cv_long, cat_rf, jcv_nil, jcat_cons, jv_none, jv_int, jv_ref, jv_null, jw_rf, rf_some, rf_none, bz_0, bz_1, i1_0, i0_0, if_true, if_false, ite_self, List.nil_append, List.cons_append, Nat.reduceAdd, Nat.reduceLeDiff, Nat.zero_le, Nat.le_refl, and_self, and_true, true_and, not_true_eq_false, not_false_eq_true, reduceIte, c_isOfBody, if_neg h2, c1, c5, h0, h1, or_self]
theorem c_fits (hR : Rel sv ω t g I J P A T tb ub) {i : Nat} (hi : i < ngA A) : Ev sv (d + 2) (38, 0, [some (.ref (ω.1 0)), some (.ref (ω.2.1 i)), some (.int y), some (.int z), none], []) (tv t u g I J P) Q ↔ if fitC A (i + 1) y z then Q (some (.int 1)) (tv t u g I J P) else Q (some (.int 0)) (tv t u g I J P) := by
  have c1 := hR.1.1
  have hw := hR.2.2.2.2.2.2.2.1
  have hmn := hw.2.2.2.1 (i + 1)
  have hG := hR.2.2.1.2.1 i hi
  obtain ⟨g1, g2, g3, g4, g5, g6, g7, g8, g9, g10, g11, g12⟩ := hG
  have hcs := fun (Q : Option Value → jM → Prop) (x y z : Int32) => c_start (Q := Q) (sv := sv) (d := d) (u := u) (x := x) (y := y) (z := z) hR
  have hct := fun (Q : Option Value → jM → Prop) (x : Int32) => c_topmost (Q := Q) (sv := sv) (d := d) (u := u) (x := x) hR
  have hcl := fun (Q : Option Value → jM → Prop) (x : Int32) => c_lowest (Q := Q) (sv := sv) (d := d) (u := u) (x := x) hR
  by_cases h0 : mnA A (i + 1) = 0
  · have h68 : A 68 (i + 1) = 0 := by rw [hmn.1, h0]; rfl
    have e8 := f8_0 (n := y) (rel := z) h68
    by_cases k1 : f8 A (i + 1) y z < topm A (A 66 (i + 1))
    · rw [if_neg (c := fitC A (i + 1) y z) (fun q => by
        rw [fitC, if_pos h0] at q
        exact q.1 k1)]
      simp only [s_X4_fitsWithLine_0, s_X4_fitsWithLine_0n, s_X4_fitsWithLine_0z, s_X4_fitsWithLine_1, s_X4_fitsWithLine_4, s_X4_fitsWithLine_7, s_X4_fitsWithLine_7n, s_X4_fitsWithLine_7z, s_X4_fitsWithLine_8, s_X4_fitsWithLine_8n, s_X4_fitsWithLine_8z, s_X4_fitsWithLine_9, s_X4_fitsWithLine_12, s_X4_fitsWithLine_13, s_X4_fitsWithLine_14, s_X4_fitsWithLine_17, s_X4_fitsWithLine_19, s_X4_fitsWithLine_21, s_X4_fitsWithLine_21n, s_X4_fitsWithLine_21z, s_X4_fitsWithLine_22, s_X4_fitsWithLine_22n, s_X4_fitsWithLine_22z, s_X4_fitsWithLine_23, s_X4_fitsWithLine_26, s_X4_fitsWithLine_29, s_X4_fitsWithLine_32, s_X4_fitsWithLine_34, s_X4_fitsWithLine_34n, s_X4_fitsWithLine_34z, s_X4_fitsWithLine_35, s_X4_fitsWithLine_35n, s_X4_fitsWithLine_35z, s_X4_fitsWithLine_36, s_X4_fitsWithLine_39, s_X4_fitsWithLine_42, s_X4_fitsWithLine_45, s_X4_fitsWithLine_46, s_X4_fitsWithLine_49, s_X4_fitsWithLine_50, s_X4_fitsWithLine_51, s_X4_fitsWithLine_51n, s_X4_fitsWithLine_51z, s_X4_fitsWithLine_52, s_X4_fitsWithLine_52n, s_X4_fitsWithLine_52z, s_X4_fitsWithLine_53, s_X4_fitsWithLine_56, s_X4_fitsWithLine_56n, s_X4_fitsWithLine_56z, s_X4_fitsWithLine_57, s_X4_fitsWithLine_60, s_X4_fitsWithLine_60n, s_X4_fitsWithLine_60z, s_X4_fitsWithLine_61, s_X4_fitsWithLine_64, s_X4_fitsWithLine_67, s_X4_fitsWithLine_69, s_X4_fitsWithLine_71, s_X4_fitsWithLine_71n, s_X4_fitsWithLine_71z, s_X4_fitsWithLine_72, s_X4_fitsWithLine_75, s_X4_fitsWithLine_76, s_X4_fitsWithLine_77, s_X4_fitsWithLine_78, s_X4_fitsWithLine_78n, s_X4_fitsWithLine_78z, s_X4_fitsWithLine_79, s_X4_fitsWithLine_79n, s_X4_fitsWithLine_79z, s_X4_fitsWithLine_80, s_X4_fitsWithLine_83, s_X4_fitsWithLine_86, s_X4_fitsWithLine_89, s_X4_fitsWithLine_90, s_X4_fitsWithLine_93, s_X4_fitsWithLine_94, tl_some, tl_none, cv_int, cv_ref, cv_null, cv_long, cat_rf, jcv_nil, jcat_cons, jv_none, jv_int, jv_ref, jv_null, jw_rf, rf_some, rf_none, bz_0, bz_1, i1_0, i0_0, if_true, if_false, ite_self, List.nil_append, List.cons_append, Nat.reduceAdd, Nat.reduceLeDiff, Nat.zero_le, Nat.le_refl, and_self, and_true, true_and, not_true_eq_false, not_false_eq_true, reduceIte, c1, g1, g6, g8, h68, hcs, ← e8, hct, hcl, k1]
    · by_cases k2 : lowm A (A 66 (i + 1)) < f8 A (i + 1) y z
      · rw [if_neg (c := fitC A (i + 1) y z) (fun q => by
          rw [fitC, if_pos h0] at q
          exact q.2 k2)]
        simp only [s_X4_fitsWithLine_0, s_X4_fitsWithLine_0n, s_X4_fitsWithLine_0z, s_X4_fitsWithLine_1, s_X4_fitsWithLine_4, s_X4_fitsWithLine_7, s_X4_fitsWithLine_7n, s_X4_fitsWithLine_7z, s_X4_fitsWithLine_8, s_X4_fitsWithLine_8n, s_X4_fitsWithLine_8z, s_X4_fitsWithLine_9, s_X4_fitsWithLine_12, s_X4_fitsWithLine_13, s_X4_fitsWithLine_14, s_X4_fitsWithLine_17, s_X4_fitsWithLine_19, s_X4_fitsWithLine_21, s_X4_fitsWithLine_21n, s_X4_fitsWithLine_21z, s_X4_fitsWithLine_22, s_X4_fitsWithLine_22n, s_X4_fitsWithLine_22z, s_X4_fitsWithLine_23, s_X4_fitsWithLine_26, s_X4_fitsWithLine_29, s_X4_fitsWithLine_32, s_X4_fitsWithLine_34, s_X4_fitsWithLine_34n, s_X4_fitsWithLine_34z, s_X4_fitsWithLine_35, s_X4_fitsWithLine_35n, s_X4_fitsWithLine_35z, s_X4_fitsWithLine_36, s_X4_fitsWithLine_39, s_X4_fitsWithLine_42, s_X4_fitsWithLine_45, s_X4_fitsWithLine_46, s_X4_fitsWithLine_49, s_X4_fitsWithLine_50, s_X4_fitsWithLine_51, s_X4_fitsWithLine_51n, s_X4_fitsWithLine_51z, s_X4_fitsWithLine_52, s_X4_fitsWithLine_52n, s_X4_fitsWithLine_52z, s_X4_fitsWithLine_53, s_X4_fitsWithLine_56, s_X4_fitsWithLine_56n, s_X4_fitsWithLine_56z, s_X4_fitsWithLine_57, s_X4_fitsWithLine_60, s_X4_fitsWithLine_60n, s_X4_fitsWithLine_60z, s_X4_fitsWithLine_61, s_X4_fitsWithLine_64, s_X4_fitsWithLine_67, s_X4_fitsWithLine_69, s_X4_fitsWithLine_71, s_X4_fitsWithLine_71n, s_X4_fitsWithLine_71z, s_X4_fitsWithLine_72, s_X4_fitsWithLine_75, s_X4_fitsWithLine_76, s_X4_fitsWithLine_77, s_X4_fitsWithLine_78, s_X4_fitsWithLine_78n, s_X4_fitsWithLine_78z, s_X4_fitsWithLine_79, s_X4_fitsWithLine_79n, s_X4_fitsWithLine_79z, s_X4_fitsWithLine_80, s_X4_fitsWithLine_83, s_X4_fitsWithLine_86, s_X4_fitsWithLine_89, s_X4_fitsWithLine_90, s_X4_fitsWithLine_93, s_X4_fitsWithLine_94, tl_some, tl_none, cv_int, cv_ref, cv_null, cv_long, cat_rf, jcv_nil, jcat_cons, jv_none, jv_int, jv_ref, jv_null, jw_rf, rf_some, rf_none, bz_0, bz_1, i1_0, i0_0, if_true, if_false, ite_self, List.nil_append, List.cons_append, Nat.reduceAdd, Nat.reduceLeDiff, Nat.zero_le, Nat.le_refl, and_self, and_true, true_and, not_true_eq_false, not_false_eq_true, reduceIte, c1, g1, g6, g8, h68, hcs, ← e8, hct, hcl, k1, k2]
      · rw [if_pos (c := fitC A (i + 1) y z) (by
          rw [fitC, if_pos h0]
          exact ⟨k1, k2⟩)]
        simp only [s_X4_fitsWithLine_0, s_X4_fitsWithLine_0n, s_X4_fitsWithLine_0z, s_X4_fitsWithLine_1, s_X4_fitsWithLine_4, s_X4_fitsWithLine_7, s_X4_fitsWithLine_7n, s_X4_fitsWithLine_7z, s_X4_fitsWithLine_8, s_X4_fitsWithLine_8n, s_X4_fitsWithLine_8z, s_X4_fitsWithLine_9, s_X4_fitsWithLine_12, s_X4_fitsWithLine_13, s_X4_fitsWithLine_14, s_X4_fitsWithLine_17, s_X4_fitsWithLine_19, s_X4_fitsWithLine_21, s_X4_fitsWithLine_21n, s_X4_fitsWithLine_21z, s_X4_fitsWithLine_22, s_X4_fitsWithLine_22n, s_X4_fitsWithLine_22z, s_X4_fitsWithLine_23, s_X4_fitsWithLine_26, s_X4_fitsWithLine_29, s_X4_fitsWithLine_32, s_X4_fitsWithLine_34, s_X4_fitsWithLine_34n, s_X4_fitsWithLine_34z, s_X4_fitsWithLine_35, s_X4_fitsWithLine_35n, s_X4_fitsWithLine_35z, s_X4_fitsWithLine_36, s_X4_fitsWithLine_39, s_X4_fitsWithLine_42, s_X4_fitsWithLine_45, s_X4_fitsWithLine_46, s_X4_fitsWithLine_49, s_X4_fitsWithLine_50, s_X4_fitsWithLine_51, s_X4_fitsWithLine_51n, s_X4_fitsWithLine_51z, s_X4_fitsWithLine_52, s_X4_fitsWithLine_52n, s_X4_fitsWithLine_52z, s_X4_fitsWithLine_53, s_X4_fitsWithLine_56, s_X4_fitsWithLine_56n, s_X4_fitsWithLine_56z, s_X4_fitsWithLine_57, s_X4_fitsWithLine_60, s_X4_fitsWithLine_60n, s_X4_fitsWithLine_60z, s_X4_fitsWithLine_61, s_X4_fitsWithLine_64, s_X4_fitsWithLine_67, s_X4_fitsWithLine_69, s_X4_fitsWithLine_71, s_X4_fitsWithLine_71n, s_X4_fitsWithLine_71z, s_X4_fitsWithLine_72, s_X4_fitsWithLine_75, s_X4_fitsWithLine_76, s_X4_fitsWithLine_77, s_X4_fitsWithLine_78, s_X4_fitsWithLine_78n, s_X4_fitsWithLine_78z, s_X4_fitsWithLine_79, s_X4_fitsWithLine_79n, s_X4_fitsWithLine_79z, s_X4_fitsWithLine_80, s_X4_fitsWithLine_83, s_X4_fitsWithLine_86, s_X4_fitsWithLine_89, s_X4_fitsWithLine_90, s_X4_fitsWithLine_93, s_X4_fitsWithLine_94, tl_some, tl_none, cv_int, cv_ref, cv_null, cv_long, cat_rf, jcv_nil, jcat_cons, jv_none, jv_int, jv_ref, jv_null, jw_rf, rf_some, rf_none, bz_0, bz_1, i1_0, i0_0, if_true, if_false, ite_self, List.nil_append, List.cons_append, Nat.reduceAdd, Nat.reduceLeDiff, Nat.zero_le, Nat.le_refl, and_self, and_true, true_and, not_true_eq_false, not_false_eq_true, reduceIte, c1, g1, g6, g8, h68, hcs, ← e8, hct, hcl, k1, k2]
  · have h68 : ¬ A 68 (i + 1) = 0 := by rw [hmn.1]; exact nIz h0 (by omega)
    have hlt : (0 : Int32) < A 68 (i + 1) := by rw [hmn.1]; exact nI_lt (a := 0) (by omega) (by omega)
    have hst := GrpAt.stn (hR.2.2.1.2.1 i hi) (by omega : 0 < mnA A (i + 1))
    rw [g6] at hst
    have e8 := f8_1 (n := y) (rel := z) h68
    have hgh := fun (Q : Option Value → jM → Prop) => GrpAt.height (sv := sv) (d := d + 1) (t := t) (u := u) (Q := Q) (J := J) (hR.2.2.1.2.1 i hi) hmn.1 hmn.2
    have e9 : stN A (i + 1) + lat A (i + 1) 0 (mnA A (i + 1) - 1) + y = f9 A (i + 1) y z := by
      unfold f9
      rw [e8, if_pos hlt, lat_add A (i + 1) (stN A (i + 1))]
    by_cases k2 : lowm A (A 66 (i + 1)) < f9 A (i + 1) y z
    · rw [if_neg (c := fitC A (i + 1) y z) (fun q => by
        rw [fitC, if_neg h0] at q
        exact q k2)]
      simp only [s_X4_fitsWithLine_0, s_X4_fitsWithLine_0n, s_X4_fitsWithLine_0z, s_X4_fitsWithLine_1, s_X4_fitsWithLine_4, s_X4_fitsWithLine_7, s_X4_fitsWithLine_7n, s_X4_fitsWithLine_7z, s_X4_fitsWithLine_8, s_X4_fitsWithLine_8n, s_X4_fitsWithLine_8z, s_X4_fitsWithLine_9, s_X4_fitsWithLine_12, s_X4_fitsWithLine_13, s_X4_fitsWithLine_14, s_X4_fitsWithLine_17, s_X4_fitsWithLine_19, s_X4_fitsWithLine_21, s_X4_fitsWithLine_21n, s_X4_fitsWithLine_21z, s_X4_fitsWithLine_22, s_X4_fitsWithLine_22n, s_X4_fitsWithLine_22z, s_X4_fitsWithLine_23, s_X4_fitsWithLine_26, s_X4_fitsWithLine_29, s_X4_fitsWithLine_32, s_X4_fitsWithLine_34, s_X4_fitsWithLine_34n, s_X4_fitsWithLine_34z, s_X4_fitsWithLine_35, s_X4_fitsWithLine_35n, s_X4_fitsWithLine_35z, s_X4_fitsWithLine_36, s_X4_fitsWithLine_39, s_X4_fitsWithLine_42, s_X4_fitsWithLine_45, s_X4_fitsWithLine_46, s_X4_fitsWithLine_49, s_X4_fitsWithLine_50, s_X4_fitsWithLine_51, s_X4_fitsWithLine_51n, s_X4_fitsWithLine_51z, s_X4_fitsWithLine_52, s_X4_fitsWithLine_52n, s_X4_fitsWithLine_52z, s_X4_fitsWithLine_53, s_X4_fitsWithLine_56, s_X4_fitsWithLine_56n, s_X4_fitsWithLine_56z, s_X4_fitsWithLine_57, s_X4_fitsWithLine_60, s_X4_fitsWithLine_60n, s_X4_fitsWithLine_60z, s_X4_fitsWithLine_61, s_X4_fitsWithLine_64, s_X4_fitsWithLine_67, s_X4_fitsWithLine_69, s_X4_fitsWithLine_71, s_X4_fitsWithLine_71n, s_X4_fitsWithLine_71z, s_X4_fitsWithLine_72, s_X4_fitsWithLine_75, s_X4_fitsWithLine_76, s_X4_fitsWithLine_77, s_X4_fitsWithLine_78, s_X4_fitsWithLine_78n, s_X4_fitsWithLine_78z, s_X4_fitsWithLine_79, s_X4_fitsWithLine_79n, s_X4_fitsWithLine_79z, s_X4_fitsWithLine_80, s_X4_fitsWithLine_83, s_X4_fitsWithLine_86, s_X4_fitsWithLine_89, s_X4_fitsWithLine_90, s_X4_fitsWithLine_93, s_X4_fitsWithLine_94, tl_some, tl_none, cv_int, cv_ref, cv_null, cv_long, cat_rf, jcv_nil, jcat_cons, jv_none, jv_int, jv_ref, jv_null, jw_rf, rf_some, rf_none, bz_0, bz_1, i1_0, i0_0, if_true, if_false, ite_self, List.nil_append, List.cons_append, Nat.reduceAdd, Nat.reduceLeDiff, Nat.zero_le, Nat.le_refl, and_self, and_true, true_and, not_true_eq_false, not_false_eq_true, reduceIte, c1, g1, g6, g8, h68, hcs, hst, hgh, e9, hcl, k2]
    · rw [if_pos (c := fitC A (i + 1) y z) (by
        rw [fitC, if_neg h0]
        exact k2)]
      simp only [s_X4_fitsWithLine_0, s_X4_fitsWithLine_0n, s_X4_fitsWithLine_0z, s_X4_fitsWithLine_1, s_X4_fitsWithLine_4, s_X4_fitsWithLine_7, s_X4_fitsWithLine_7n, s_X4_fitsWithLine_7z, s_X4_fitsWithLine_8, s_X4_fitsWithLine_8n, s_X4_fitsWithLine_8z, s_X4_fitsWithLine_9, s_X4_fitsWithLine_12, s_X4_fitsWithLine_13, s_X4_fitsWithLine_14, s_X4_fitsWithLine_17, s_X4_fitsWithLine_19, s_X4_fitsWithLine_21, s_X4_fitsWithLine_21n, s_X4_fitsWithLine_21z, s_X4_fitsWithLine_22, s_X4_fitsWithLine_22n, s_X4_fitsWithLine_22z, s_X4_fitsWithLine_23, s_X4_fitsWithLine_26, s_X4_fitsWithLine_29, s_X4_fitsWithLine_32, s_X4_fitsWithLine_34, s_X4_fitsWithLine_34n, s_X4_fitsWithLine_34z, s_X4_fitsWithLine_35, s_X4_fitsWithLine_35n, s_X4_fitsWithLine_35z, s_X4_fitsWithLine_36, s_X4_fitsWithLine_39, s_X4_fitsWithLine_42, s_X4_fitsWithLine_45, s_X4_fitsWithLine_46, s_X4_fitsWithLine_49, s_X4_fitsWithLine_50, s_X4_fitsWithLine_51, s_X4_fitsWithLine_51n, s_X4_fitsWithLine_51z, s_X4_fitsWithLine_52, s_X4_fitsWithLine_52n, s_X4_fitsWithLine_52z, s_X4_fitsWithLine_53, s_X4_fitsWithLine_56, s_X4_fitsWithLine_56n, s_X4_fitsWithLine_56z, s_X4_fitsWithLine_57, s_X4_fitsWithLine_60, s_X4_fitsWithLine_60n, s_X4_fitsWithLine_60z, s_X4_fitsWithLine_61, s_X4_fitsWithLine_64, s_X4_fitsWithLine_67, s_X4_fitsWithLine_69, s_X4_fitsWithLine_71, s_X4_fitsWithLine_71n, s_X4_fitsWithLine_71z, s_X4_fitsWithLine_72, s_X4_fitsWithLine_75, s_X4_fitsWithLine_76, s_X4_fitsWithLine_77, s_X4_fitsWithLine_78, s_X4_fitsWithLine_78n, s_X4_fitsWithLine_78z, s_X4_fitsWithLine_79, s_X4_fitsWithLine_79n, s_X4_fitsWithLine_79z, s_X4_fitsWithLine_80, s_X4_fitsWithLine_83, s_X4_fitsWithLine_86, s_X4_fitsWithLine_89, s_X4_fitsWithLine_90, s_X4_fitsWithLine_93, s_X4_fitsWithLine_94, tl_some, tl_none, cv_int, cv_ref, cv_null, cv_long, cat_rf, jcv_nil, jcat_cons, jv_none, jv_int, jv_ref, jv_null, jw_rf, rf_some, rf_none, bz_0, bz_1, i1_0, i0_0, if_true, if_false, ite_self, List.nil_append, List.cons_append, Nat.reduceAdd, Nat.reduceLeDiff, Nat.zero_le, Nat.le_refl, and_self, and_true, true_and, not_true_eq_false, not_false_eq_true, reduceIte, c1, g1, g6, g8, h68, hcs, hst, hgh, e9, hcl, k2]
end
