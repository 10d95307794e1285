-- ===== controls and sums =====
/-- values 0 where no control is -/
def V0 (A : Nat → Nat → Int32) : Prop := ∀ j, j = 0 ∨ ncA A < j → A 64 j = 0 ∧ A 65 j = 0
theorem fr.v0 {A B : Nat → Nat → Int32} (h : fr A B) (hv : V0 A) : V0 B := fun j hj => by
  rw [h 64 j rfl, h 65 j rfl]
  exact hv j (by rw [← h.nc]; exact hj)
/-- sums belong to foots of controls, and are rolled from a foot of a lesser control -/
def WfS0 (A : Nat → Nat → Int32) : Prop := (∀ s, 1 ≤ s → s ≤ nsA A → A 66 (A 74 s).toNatClampNeg = 4) ∧ ∀ t s, 1 ≤ t → t ≤ nsA A → 1 ≤ s → s ≤ nsA A → A 75 t = 0 - nI s → A 67 (A 74 t).toNatClampNeg < A 67 (A 74 s).toNatClampNeg
/-- where the first lines stand -/
def kd7 (x : Int32) : Prop := x = 0 ∨ x = 1 ∨ x = 2 ∨ x = 3 ∨ x = 4 ∨ x = 5 ∨ x = 6
def WfL (A : Nat → Nat → Int32) : Prop := ∀ gi, 1 ≤ gi → gi ≤ ngA A → kd7 (A 66 gi) ∧ (0 < mnA A gi → ¬ A 70 gi = 0 → (inb A gi → ¬ A 69 (10 * gi) < A 7 2) ∧ (A 66 gi = 5 → A 7 3 < A 69 (10 * gi)))
def WfS (A : Nat → Nat → Int32) : Prop := WfS0 A ∧ WfL A
theorem fs.wl {A B : Nat → Nat → Int32} (h : fs A B) (hs : WfL A) : WfL B := by
  intro gi h1 h2
  rw [h.ng] at h2
  rw [inb, h 66 _ rfl, h.mn, h 70 _ rfl, h 69 _ rfl, h 7 2 rfl, h 7 3 rfl]
  exact hs gi h1 h2
theorem fs.ws {A B : Nat → Nat → Int32} (h : fs A B) (hs : WfS A) : WfS B := by
  refine ⟨?_, h.wl hs.2⟩
  obtain ⟨hs, -⟩ := hs
  constructor
  · intro s h1 h2
    rw [h.ns] at h2
    rw [h 66 _ rfl, h 74 _ rfl]
    exact hs.1 s h1 h2
  · intro t s h1 h2 h3 h4 h5
    rw [h.ns] at h2 h4
    rw [h 75 _ rfl] at h5
    rw [h 67 _ rfl, h 67 _ rfl, h 74 _ rfl, h 74 _ rfl]
    exact hs.2 t s h1 h2 h3 h4 h5
theorem chD_eq {A : Nat → Nat → Int32} : ∀ k acc, (∀ j, 1 ≤ j → j ≤ k → A 64 j = A 65 j) → chD A k acc = acc
  | 0, _, _ => rfl
  | k + 1, acc, h => by
    unfold chD
    rw [if_pos (h (k + 1) (by omega) (by omega))]
    exact chD_eq k acc (fun j h1 h2 => h j h1 (by omega))
theorem chD_first {A : Nat → Nat → Int32} {k : Nat} (h : ∀ j, 1 ≤ j → j ≤ k → A 64 j = A 65 j) (hn : ¬ A 64 (k + 1) = A 65 (k + 1)) : ∀ n acc, k + 1 ≤ n → chD A n acc = k + 1
  | 0, _, q => by omega
  | n + 1, acc, q => by
    unfold chD
    by_cases e : k = n
    · subst e
      rw [if_neg hn]
      exact chD_eq k _ h
    · exact chD_first h hn n _ (by omega)
theorem fsD_no {A : Nat → Nat → Int32} {gi : Nat} : ∀ k acc, (∀ j, 1 ≤ j → j ≤ k → ¬ A 74 j = nI gi) → fsD A gi k acc = acc
  | 0, _, _ => rfl
  | k + 1, acc, h => by
    unfold fsD
    rw [if_neg (h (k + 1) (by omega) (by omega))]
    exact fsD_no k acc (fun j h1 h2 => h j h1 (by omega))
theorem fsD_first {A : Nat → Nat → Int32} {gi k : Nat} (h : ∀ j, 1 ≤ j → j ≤ k → ¬ A 74 j = nI gi) (hn : A 74 (k + 1) = nI gi) : ∀ n acc, k + 1 ≤ n → fsD A gi n acc = k + 1
  | 0, _, q => by omega
  | n + 1, acc, q => by
    unfold fsD
    by_cases e : k = n
    · subst e
      rw [if_pos hn]
      exact fsD_no k _ h
    · exact fsD_first h hn n _ (by omega)
/-- a sum as a reference -/
def sR (ω : Wd) (n : Nat) : Option Nat := if n = 0 then none else some (ω.2.2.2.1 (n - 1))
theorem Nx_J {t u : Nat} {g : jG} {I : tI} {J J' : tJ} {P : tP} {tb ub : Nat} (h : ∀ κ, κ ≠ 5 → J' κ = J κ) : Nx t u g I J P tb ub t u g I J' P tb ub := ⟨gle_rf g, fun κ hκ => ⟨rfl, h κ (by omega), rfl⟩, Nat.le_refl _, Nat.le_refl _, Nat.le_refl _, Nat.le_refl _⟩
section
variable {sv : Nat → Value} {d t u : Nat} {Q : Option Value → jM → Prop} {g : jG} {I I' : tI} {J : tJ} {P : tP} {A B : Nat → Nat → Int32} {T T' : Nat → Int64} {ω : Wd} {tb ub st : Nat} {x y z : Int32}
theorem c_changed_loop (hR : Rel sv ω t g I J P A T tb ub) : ∀ n k, k + n = ncA A → (∀ j, 1 ≤ j → j ≤ k → A 64 j = A 65 j) →
    (Ev sv d (46, 2, [some (.ref (ω.1 0)), some (.int (nI (k + 1)))], []) (tv t u g I J P) Q ↔ Q (some (.int (nI (chA A)))) (tv t u g I J P)) := by
  have c1 := hR.1.1
  have c8 := hR.1.2.2.2.2.2.2.2.1
  obtain ⟨v1, v2, v3, v4, v5, v6, v7, v8⟩ := hR.2.1
  have hw := hR.2.2.2.2.2.2.2.1
  have h5 := hw.2.2.1
  have c8' : I 6 5 (ω.1 0) = nI (ncA A) := c8.trans h5.1
  intro n
  induction n with
  | zero =>
    intro k hk he
    have e : ncA A = k := by omega
    have hz : chA A = k + 1 := by
      unfold chA
      rw [e]
      exact chD_eq k _ he
    have h1 : nI k < nI (k + 1) := nI_lt (by omega) (by omega)
    rw [e] at c8'
    rw [hz]
    refine s_X4_changedLevel_2.trans ?_
    simp only [s_X4_changedLevel_3, s_X4_changedLevel_3n, s_X4_changedLevel_3z, s_X4_changedLevel_4, s_X4_changedLevel_7, s_X4_changedLevel_31, s_X4_changedLevel_32, tl_some, tl_none, cv_int, cv_ref, cv_null, cv_long, cat_rf, jcv_nil, jcat_cons, jv_none, jv_int, jv_ref, jv_null, jw_rf, rf_some, rf_none, bz_0, bz_1, i1_0, i0_0, if_true, if_false, ite_self, List.nil_append, List.cons_append, Nat.reduceAdd, Nat.reduceLeDiff, Nat.zero_le, Nat.le_refl, and_self, and_true, true_and, not_true_eq_false, not_false_eq_true, reduceIte, c1, c8', h1]
  | succ n ih =>
    intro k hk he
    have h1 : ¬ nI (ncA A) < nI (k + 1) := nI_nlt (by omega) (by omega)
    have hj : jin (nI (k + 1)) 6 = true := jin_nI (by omega) (by omega)
    have hc : (nI (k + 1)).toNatClampNeg = k + 1 := nI_clamp (by omega)
    have a1 := v7 (k + 1) (by omega)
    have a2 := v8 (k + 1) (by omega)
    have hs := nIs (k + 1)
    by_cases h : A 64 (k + 1) = A 65 (k + 1)
    · refine Iff.trans ?_ (ih (k + 1) (by omega) (fun j q1 q2 => by
        by_cases e : j = k + 1
        · rw [e]; exact h
        · exact he j q1 (by omega)))
      refine s_X4_changedLevel_2.trans ?_
      simp only [s_X4_changedLevel_3, s_X4_changedLevel_3n, s_X4_changedLevel_3z, s_X4_changedLevel_4, s_X4_changedLevel_7, s_X4_changedLevel_10, s_X4_changedLevel_10n, s_X4_changedLevel_10z, s_X4_changedLevel_11, s_X4_changedLevel_14, s_X4_changedLevel_15, s_X4_changedLevel_16, s_X4_changedLevel_16n, s_X4_changedLevel_16z, s_X4_changedLevel_17, s_X4_changedLevel_20, s_X4_changedLevel_21, s_X4_changedLevel_22, s_X4_changedLevel_25, s_X4_changedLevel_28, tl_some, tl_none, cv_int, cv_ref, cv_null, cv_long, cat_rf, jcv_nil, jcat_cons, jv_none, jv_int, jv_ref, jv_null, jw_rf, rf_some, rf_none, bz_0, bz_1, i1_0, i0_0, if_true, if_false, ite_self, List.nil_append, List.cons_append, Nat.reduceAdd, Nat.reduceLeDiff, Nat.zero_le, Nat.le_refl, and_self, and_true, true_and, not_true_eq_false, not_false_eq_true, reduceIte, c1, c8', h1, v1, v2, v3, v4, v5, v6, hj, hc, a1, a2, h, hs]
    · have hz : chA A = k + 1 := chD_first he h _ _ (by omega)
      rw [hz]
      refine s_X4_changedLevel_2.trans ?_
      simp only [s_X4_changedLevel_3, s_X4_changedLevel_3n, s_X4_changedLevel_3z, s_X4_changedLevel_4, s_X4_changedLevel_7, s_X4_changedLevel_10, s_X4_changedLevel_10n, s_X4_changedLevel_10z, s_X4_changedLevel_11, s_X4_changedLevel_14, s_X4_changedLevel_15, s_X4_changedLevel_16, s_X4_changedLevel_16n, s_X4_changedLevel_16z, s_X4_changedLevel_17, s_X4_changedLevel_20, s_X4_changedLevel_21, s_X4_changedLevel_22, s_X4_changedLevel_25, s_X4_changedLevel_28, s_X4_changedLevel_31, s_X4_changedLevel_32, tl_some, tl_none, cv_int, cv_ref, cv_null, cv_long, cat_rf, jcv_nil, jcat_cons, jv_none, jv_int, jv_ref, jv_null, jw_rf, rf_some, rf_none, bz_0, bz_1, i1_0, i0_0, if_true, if_false, ite_self, List.nil_append, List.cons_append, Nat.reduceAdd, Nat.reduceLeDiff, Nat.zero_le, Nat.le_refl, and_self, and_true, true_and, not_true_eq_false, not_false_eq_true, reduceIte, c1, c8', h1, v1, v2, v3, v4, v5, v6, hj, hc, a1, a2, h]
theorem c_changed (hR : Rel sv ω t g I J P A T tb ub) : Ev sv d (46, 0, [some (.ref (ω.1 0)), none], []) (tv t u g I J P) Q ↔ Q (some (.int (nI (chA A)))) (tv t u g I J P) := by
  simp only [s_X4_changedLevel_0, s_X4_changedLevel_1, tl_some, tl_none, cv_int, cv_ref, cv_null, cv_long, cat_rf, jcv_nil, jcat_cons, jv_none, jv_int, jv_ref, jv_null, jw_rf, rf_some, rf_none, bz_0, bz_1, i1_0, i0_0, if_true, if_false, ite_self, List.nil_append, List.cons_append, Nat.reduceAdd, Nat.reduceLeDiff, Nat.zero_le, Nat.le_refl, and_self, and_true, true_and, not_true_eq_false, not_false_eq_true, reduceIte]
  exact c_changed_loop hR (ncA A) 0 (by omega) (fun j h1 h2 => by omega)
theorem c_firstSum_loop {gi : Nat} (hR : Rel sv ω t g I J P A T tb ub) : ∀ n k, k + n = nsA A → (∀ j, 1 ≤ j → j ≤ k → ¬ A 74 j = nI gi) → ∀ l3 : Option Value,
    (Ev sv (d + 3) (32, 2, [some (.ref (ω.1 0)), some (.int (nI gi)), some (.int (nI k)), l3], []) (tv t u g I J P) Q ↔ Q (some (va_rf (sR ω (fsA A gi)))) (tv t u g I J P)) := by
  have c1 := hR.1.1
  have c2 := hR.1.2.2.1
  have hLg := hR.2.2.2.1.1
  have hLg1 := hLg.1
  have hsz : I 1 2 (ω.1 2) = nI (nsA A) := hLg.2.2.1
  have hw := hR.2.2.2.2.2.2.2.1
  have h20 := hw.2.1.2
  intro n
  induction n with
  | zero =>
    intro k hk hno l3
    have e : k = nsA A := by omega
    have hz : fsA A gi = 0 := by
      unfold fsA
      exact fsD_no _ _ (fun j h1 h2 => hno j h1 (by omega))
    have h1 : ¬ nI k < nI (nsA A) := nI_nlt (by omega) (by omega)
    rw [hz]
    refine s_X4_firstSumOf_2.trans ?_
    simp only [s_X4_firstSumOf_3, s_X4_firstSumOf_3n, s_X4_firstSumOf_3z, s_X4_firstSumOf_4, s_X4_firstSumOf_7, s_X4_firstSumOf_10, s_X4_firstSumOf_41, s_X4_firstSumOf_42, s_X4_firstSumOf_42z, s_X4_firstSumOf_42n, tl_some, tl_none, cv_int, cv_ref, cv_null, cv_long, cat_rf, jcv_nil, jcat_cons, jv_none, jv_int, jv_ref, jv_null, jw_rf, rf_some, rf_none, bz_0, bz_1, i1_0, i0_0, if_true, if_false, ite_self, List.nil_append, List.cons_append, Nat.reduceAdd, Nat.reduceLeDiff, Nat.zero_le, Nat.le_refl, and_self, and_true, true_and, not_true_eq_false, not_false_eq_true, reduceIte, c1, c2, hLg1, l_size hLg1, hsz, h1]
    rfl
  | succ n ih =>
    intro k hk hno l3
    have h1 : nI k < nI (nsA A) := nI_lt (by omega) (by omega)
    have hg := fun (Q : Option Value → jM → Prop) => l_get (sv := sv) (d := d) (t := t) (u := u) (Q := Q) (J := J) hLg (i := k) (by omega)
    obtain ⟨g1, g2, g3, g4, g5, g6⟩ := hR.2.2.2.1.2.1 k (by omega)
    have hs := nIs k
    by_cases m1 : A 74 (k + 1) = nI gi
    · have hz : fsA A gi = k + 1 := fsD_first hno m1 _ _ (by omega)
      have e : sR ω (fsA A gi) = some (ω.2.2.2.1 k) := by rw [hz]; rfl
      rw [e]
      refine s_X4_firstSumOf_2.trans ?_
      simp only [s_X4_firstSumOf_3, s_X4_firstSumOf_3n, s_X4_firstSumOf_3z, s_X4_firstSumOf_4, s_X4_firstSumOf_7, s_X4_firstSumOf_10, s_X4_firstSumOf_13, s_X4_firstSumOf_13n, s_X4_firstSumOf_13z, s_X4_firstSumOf_14, s_X4_firstSumOf_17, s_X4_firstSumOf_18, s_X4_firstSumOf_21, s_X4_firstSumOf_21z, s_X4_firstSumOf_24, s_X4_firstSumOf_24n, s_X4_firstSumOf_24z, s_X4_firstSumOf_25, s_X4_firstSumOf_25n, s_X4_firstSumOf_25z, s_X4_firstSumOf_26, s_X4_firstSumOf_29, s_X4_firstSumOf_30, s_X4_firstSumOf_33, s_X4_firstSumOf_33n, s_X4_firstSumOf_33z, s_X4_firstSumOf_34, s_X4_firstSumOf_34z, s_X4_firstSumOf_34n, tl_some, tl_none, cv_int, cv_ref, cv_null, cv_long, cat_rf, jcv_nil, jcat_cons, jv_none, jv_int, jv_ref, jv_null, jw_rf, rf_some, rf_none, bz_0, bz_1, i1_0, i0_0, if_true, if_false, ite_self, List.nil_append, List.cons_append, Nat.reduceAdd, Nat.reduceLeDiff, Nat.zero_le, Nat.le_refl, and_self, and_true, true_and, not_true_eq_false, not_false_eq_true, reduceIte, c1, c2, hLg1, l_size hLg1, hsz, h1, hg, g1, g2, m1]
    · refine Iff.trans ?_ (ih (k + 1) (by omega) (fun j q1 q2 q3 => by
          by_cases hjk : j = k + 1
          · rw [hjk] at q3; exact m1 q3
          · exact hno j q1 (by omega) q3) (some (.ref (ω.2.2.2.1 k))))
      refine s_X4_firstSumOf_2.trans ?_
      simp only [s_X4_firstSumOf_3, s_X4_firstSumOf_3n, s_X4_firstSumOf_3z, s_X4_firstSumOf_4, s_X4_firstSumOf_7, s_X4_firstSumOf_10, s_X4_firstSumOf_13, s_X4_firstSumOf_13n, s_X4_firstSumOf_13z, s_X4_firstSumOf_14, s_X4_firstSumOf_17, s_X4_firstSumOf_18, s_X4_firstSumOf_21, s_X4_firstSumOf_21z, s_X4_firstSumOf_24, s_X4_firstSumOf_24n, s_X4_firstSumOf_24z, s_X4_firstSumOf_25, s_X4_firstSumOf_25n, s_X4_firstSumOf_25z, s_X4_firstSumOf_26, s_X4_firstSumOf_29, s_X4_firstSumOf_30, s_X4_firstSumOf_33, s_X4_firstSumOf_33n, s_X4_firstSumOf_33z, s_X4_firstSumOf_34, s_X4_firstSumOf_34z, s_X4_firstSumOf_34n, s_X4_firstSumOf_35, s_X4_firstSumOf_38, tl_some, tl_none, cv_int, cv_ref, cv_null, cv_long, cat_rf, jcv_nil, jcat_cons, jv_none, jv_int, jv_ref, jv_null, jw_rf, rf_some, rf_none, bz_0, bz_1, i1_0, i0_0, if_true, if_false, ite_self, List.nil_append, List.cons_append, Nat.reduceAdd, Nat.reduceLeDiff, Nat.zero_le, Nat.le_refl, and_self, and_true, true_and, not_true_eq_false, not_false_eq_true, reduceIte, c1, c2, hLg1, l_size hLg1, hsz, h1, hg, g1, g2, m1, hs]
theorem c_firstSum {gi : Nat} (hR : Rel sv ω t g I J P A T tb ub) : Ev sv (d + 3) (32, 0, [some (.ref (ω.1 0)), some (.int (nI gi)), none, none], []) (tv t u g I J P) Q ↔ Q (some (va_rf (sR ω (fsA A gi)))) (tv t u g I J P) := by
  simp only [s_X4_firstSumOf_0, s_X4_firstSumOf_1, tl_some, tl_none, cv_int, cv_ref, cv_null, cv_long, cat_rf, jcv_nil, jcat_cons, jv_none, jv_int, jv_ref, jv_null, jw_rf, rf_some, rf_none, bz_0, bz_1, i1_0, i0_0, if_true, if_false, ite_self, List.nil_append, List.cons_append, Nat.reduceAdd, Nat.reduceLeDiff, Nat.zero_le, Nat.le_refl, and_self, and_true, true_and, not_true_eq_false, not_false_eq_true, reduceIte]
  exact c_firstSum_loop hR (nsA A) 0 (by omega) (fun j h1 h2 => by omega) none
/-- a total is written -/
theorem Rel.tot (hR : Rel sv ω t g I J P A T tb ub) {i : Nat} (hi : i < nsA A) {X : Int64} : Rel sv ω t g I (ups J 5 4 (ω.2.2.2.1 i) X) P A (upT T (i + 1) X) tb ub := by
  obtain ⟨hC, hV, hG, ⟨h1, h2, h3⟩, hP, hD, htg, hw, hl, hs⟩ := hR
  refine ⟨hC, hV, hG, ⟨h1, fun j hj => ?_, h3⟩, hP, hD, htg, hw, hl, hs⟩
  obtain ⟨s1, s2, s3, s4, s5, s6⟩ := h2 j hj
  refine ⟨s1, s2, s3, s4, s5, ?_⟩
  rw [ups_ap, upT_ap]
  by_cases h : j = i
  · rw [if_pos ⟨rfl, rfl, by rw [h]⟩, if_pos (by omega)]
  · rw [if_neg (fun q => h (h3 j i hj hi q.2.2)), if_neg (by omega)]
    exact s6
theorem Rel.tcongr (hR : Rel sv ω t g I J P A T tb ub) (h : ∀ s, 1 ≤ s → s ≤ nsA A → T' s = T s) : Rel sv ω t g I J P A T' tb ub := by
  obtain ⟨hC, hV, hG, ⟨h1, h2, h3⟩, hP, hD, htg, hw, hl, hs⟩ := hR
  refine ⟨hC, hV, hG, ⟨h1, fun j hj => ?_, h3⟩, hP, hD, htg, hw, hl, hs⟩
  obtain ⟨s1, s2, s3, s4, s5, s6⟩ := h2 j hj
  exact ⟨s1, s2, s3, s4, s5, by rw [h (j + 1) (by omega) (by omega)]; exact s6⟩
theorem upT_id (U : Nat → Int64) (k : Nat) : upT U k (U k) = U := by
  funext j
  rw [upT_ap]
  split
  · rename_i h; rw [h]
  · rfl
theorem c_reset_loop {lv : Nat} : ∀ n k, k + n = nsA A → ∀ (J : tJ) (l3 : Option Value), Rel sv ω t g I J P A (rsT A lv T k) tb ub →
    (∀ J' : tJ, Rel sv ω t g I J' P A (rsT A lv T (nsA A)) tb ub → (∀ κ, κ ≠ 5 → J' κ = J κ) → Q none (tv t u g I J' P)) →
    Ev sv (d + 3) (51, 2, [some (.ref (ω.1 0)), some (.int (nI lv)), some (.int (nI k)), l3], []) (tv t u g I J P) Q := by
  intro n
  induction n with
  | zero =>
    intro k hk J l3 hR K
    have c1 := hR.1.1
    have c2 := hR.1.2.2.1
    have hLg := hR.2.2.2.1.1
    have hLg1 := hLg.1
    have hsz : I 1 2 (ω.1 2) = nI (nsA A) := hLg.2.2.1
    have h20 := hR.2.2.2.2.2.2.2.1.2.1.2
    have e : k = nsA A := by omega
    have h1 : ¬ nI k < nI (nsA A) := nI_nlt (by omega) (by omega)
    refine s_X4_resetSums_2.mpr ?_
    simp only [s_X4_resetSums_3, s_X4_resetSums_3n, s_X4_resetSums_3z, s_X4_resetSums_4, s_X4_resetSums_7, s_X4_resetSums_10, s_X4_resetSums_44, tl_some, tl_none, cv_int, cv_ref, cv_null, cv_long, cat_rf, jcv_nil, jcat_cons, jv_none, jv_int, jv_ref, jv_null, jw_rf, rf_some, rf_none, bz_0, bz_1, i1_0, i0_0, if_true, if_false, ite_self, List.nil_append, List.cons_append, Nat.reduceAdd, Nat.reduceLeDiff, Nat.zero_le, Nat.le_refl, and_self, and_true, true_and, not_true_eq_false, not_false_eq_true, reduceIte, c1, c2, hLg1, l_size hLg1, hsz, h1]
    rw [e] at hR
    exact K J hR (fun _ _ => rfl)
  | succ n ih =>
    intro k hk J l3 hR K
    have c1 := hR.1.1
    have c2 := hR.1.2.2.1
    have hLg := hR.2.2.2.1.1
    have hLg1 := hLg.1
    have hsz : I 1 2 (ω.1 2) = nI (nsA A) := hLg.2.2.1
    have h20 := hR.2.2.2.2.2.2.2.1.2.1.2
    have h1 : nI k < nI (nsA A) := nI_lt (by omega) (by omega)
    have hg := fun (Q : Option Value → jM → Prop) => l_get (sv := sv) (d := d) (t := t) (u := u) (Q := Q) (J := J) hLg (i := k) (by omega)
    obtain ⟨g1, g2, g3, g4, g5, g6⟩ := hR.2.2.2.1.2.1 k (by omega)
    have hs := nIs k
    refine s_X4_resetSums_2.mpr ?_
    by_cases m1 : A 76 (k + 1) = nI lv
    · simp only [s_X4_resetSums_3, s_X4_resetSums_3n, s_X4_resetSums_3z, s_X4_resetSums_4, s_X4_resetSums_7, s_X4_resetSums_10, s_X4_resetSums_13, s_X4_resetSums_13n, s_X4_resetSums_13z, s_X4_resetSums_14, s_X4_resetSums_17, s_X4_resetSums_18, s_X4_resetSums_21, s_X4_resetSums_21z, s_X4_resetSums_24, s_X4_resetSums_24n, s_X4_resetSums_24z, s_X4_resetSums_25, s_X4_resetSums_25n, s_X4_resetSums_25z, s_X4_resetSums_26, s_X4_resetSums_29, s_X4_resetSums_30, s_X4_resetSums_33, s_X4_resetSums_33n, s_X4_resetSums_33z, s_X4_resetSums_34, s_X4_resetSums_35, s_X4_resetSums_38, s_X4_resetSums_41, tl_some, tl_none, cv_int, cv_ref, cv_null, cv_long, cat_rf, jcv_nil, jcat_cons, jv_none, jv_int, jv_ref, jv_null, jw_rf, rf_some, rf_none, bz_0, bz_1, i1_0, i0_0, if_true, if_false, ite_self, List.nil_append, List.cons_append, Nat.reduceAdd, Nat.reduceLeDiff, Nat.zero_le, Nat.le_refl, and_self, and_true, true_and, not_true_eq_false, not_false_eq_true, reduceIte, c1, c2, hLg1, l_size hLg1, hsz, h1, hg, g1, g5, m1, hs]
      refine ih (k + 1) (by omega) _ _ ?_ (fun J' r1 r2 => K J' r1 (fun κ hκ => (r2 κ hκ).trans (ups_o hκ)))
      show Rel sv ω t g I _ P A (upT (rsT A lv T k) (k + 1) (if A 76 (k + 1) = nI lv then 0 else rsT A lv T k (k + 1))) tb ub
      rw [if_pos m1]
      exact hR.tot (by omega)
    · simp only [s_X4_resetSums_3, s_X4_resetSums_3n, s_X4_resetSums_3z, s_X4_resetSums_4, s_X4_resetSums_7, s_X4_resetSums_10, s_X4_resetSums_13, s_X4_resetSums_13n, s_X4_resetSums_13z, s_X4_resetSums_14, s_X4_resetSums_17, s_X4_resetSums_18, s_X4_resetSums_21, s_X4_resetSums_21z, s_X4_resetSums_24, s_X4_resetSums_24n, s_X4_resetSums_24z, s_X4_resetSums_25, s_X4_resetSums_25n, s_X4_resetSums_25z, s_X4_resetSums_26, s_X4_resetSums_29, s_X4_resetSums_30, s_X4_resetSums_33, s_X4_resetSums_33n, s_X4_resetSums_33z, s_X4_resetSums_34, s_X4_resetSums_35, s_X4_resetSums_38, s_X4_resetSums_41, tl_some, tl_none, cv_int, cv_ref, cv_null, cv_long, cat_rf, jcv_nil, jcat_cons, jv_none, jv_int, jv_ref, jv_null, jw_rf, rf_some, rf_none, bz_0, bz_1, i1_0, i0_0, if_true, if_false, ite_self, List.nil_append, List.cons_append, Nat.reduceAdd, Nat.reduceLeDiff, Nat.zero_le, Nat.le_refl, and_self, and_true, true_and, not_true_eq_false, not_false_eq_true, reduceIte, c1, c2, hLg1, l_size hLg1, hsz, h1, hg, g1, g5, m1, hs]
      refine ih (k + 1) (by omega) _ _ ?_ K
      show Rel sv ω t g I _ P A (upT (rsT A lv T k) (k + 1) (if A 76 (k + 1) = nI lv then 0 else rsT A lv T k (k + 1))) tb ub
      rw [if_neg m1, upT_id]
      exact hR
theorem c_reset {lv : Nat} (hR : Rel sv ω t g I J P A T tb ub) (K : ∀ J' : tJ, Rel sv ω t g I J' P A (rsT A lv T (nsA A)) tb ub → (∀ κ, κ ≠ 5 → J' κ = J κ) → Q none (tv t u g I J' P)) :
    Ev sv (d + 3) (51, 0, [some (.ref (ω.1 0)), some (.int (nI lv)), none, none], []) (tv t u g I J P) Q := by
  simp only [s_X4_resetSums_0, s_X4_resetSums_1, tl_some, tl_none, cv_int, cv_ref, cv_null, cv_long, cat_rf, jcv_nil, jcat_cons, jv_none, jv_int, jv_ref, jv_null, jw_rf, rf_some, rf_none, bz_0, bz_1, i1_0, i0_0, if_true, if_false, ite_self, List.nil_append, List.cons_append, Nat.reduceAdd, Nat.reduceLeDiff, Nat.zero_le, Nat.le_refl, and_self, and_true, true_and, not_true_eq_false, not_false_eq_true, reduceIte]
  exact c_reset_loop (nsA A) 0 (by omega) J none hR K
theorem c_addTo_loop {det : Nat} (hd : det ≤ 20) {X : Int64} : ∀ n k, k + n = nsA A → ∀ (J : tJ) (l5 : Option Value), Rel sv ω t g I J P A (adT A T (nI det) X k) tb ub →
    (∀ J' : tJ, Rel sv ω t g I J' P A (adT A T (nI det) X (nsA A)) tb ub → (∀ κ, κ ≠ 5 → J' κ = J κ) → Q none (tv t u g I J' P)) →
    Ev sv (d + 3) (49, 3, [some (.ref (ω.1 0)), some (.int (nI det)), some (.long X), none, some (.int (nI k)), l5], []) (tv t u g I J P) Q := by
  intro n
  induction n with
  | zero =>
    intro k hk J l3 hR K
    have c1 := hR.1.1
    have c2 := hR.1.2.2.1
    have hLg := hR.2.2.2.1.1
    have hLg1 := hLg.1
    have hsz : I 1 2 (ω.1 2) = nI (nsA A) := hLg.2.2.1
    have h20 := hR.2.2.2.2.2.2.2.1.2.1.2
    have e : k = nsA A := by omega
    have h1 : ¬ nI k < nI (nsA A) := nI_nlt (by omega) (by omega)
    refine s_X4_addToSums_3.mpr ?_
    simp only [s_X4_addToSums_5, s_X4_addToSums_5n, s_X4_addToSums_5z, s_X4_addToSums_6, s_X4_addToSums_9, s_X4_addToSums_12, s_X4_addToSums_63, tl_some, tl_none, cv_int, cv_ref, cv_null, cv_long, cat_rf, jcv_nil, jcat_cons, jv_none, jv_int, jv_ref, jv_null, jw_rf, rf_some, rf_none, bz_0, bz_1, i1_0, i0_0, if_true, if_false, ite_self, List.nil_append, List.cons_append, Nat.reduceAdd, Nat.reduceLeDiff, Nat.zero_le, Nat.le_refl, and_self, and_true, true_and, not_true_eq_false, not_false_eq_true, reduceIte, c1, c2, hLg1, l_size hLg1, hsz, h1]
    rw [e] at hR
    exact K J hR (fun _ _ => rfl)
  | succ n ih =>
    intro k hk J l3 hR K
    have c1 := hR.1.1
    have c2 := hR.1.2.2.1
    have hLg := hR.2.2.2.1.1
    have hLg1 := hLg.1
    have hsz : I 1 2 (ω.1 2) = nI (nsA A) := hLg.2.2.1
    have h20 := hR.2.2.2.2.2.2.2.1.2.1.2
    have h1 : nI k < nI (nsA A) := nI_lt (by omega) (by omega)
    have hg := fun (Q : Option Value → jM → Prop) => l_get (sv := sv) (d := d) (t := t) (u := u) (Q := Q) (J := J) hLg (i := k) (by omega)
    obtain ⟨g1, g2, g3, g4, g5, g6⟩ := hR.2.2.2.1.2.1 k (by omega)
    have hs := nIs k
    have hneg : ¬ nI det < 0 := nI_nlt (b := 0) (by omega) (by omega)
    refine s_X4_addToSums_3.mpr ?_
    have fin1 : tk A (k + 1) (nI det) → Rel sv ω t g I (ups J 5 4 (ω.2.2.2.1 k) (adT A T (nI det) X k (k + 1) + X)) P A (adT A T (nI det) X (k + 1)) tb ub := fun h => by
      show Rel sv ω t g I _ P A (upT (adT A T (nI det) X k) (k + 1) (adT A T (nI det) X k (k + 1) + (if tk A (k + 1) (nI det) then X else 0))) tb ub
      rw [if_pos (c := tk A (k + 1) (nI det)) h]
      exact hR.tot (by omega)
    by_cases m1 : A 75 (k + 1) = 0
    · simp only [s_X4_addToSums_5, s_X4_addToSums_5n, s_X4_addToSums_5z, s_X4_addToSums_6, s_X4_addToSums_9, s_X4_addToSums_12, s_X4_addToSums_15, s_X4_addToSums_15n, s_X4_addToSums_15z, s_X4_addToSums_16, s_X4_addToSums_19, s_X4_addToSums_21, s_X4_addToSums_24, s_X4_addToSums_24z, s_X4_addToSums_27, s_X4_addToSums_27n, s_X4_addToSums_27z, s_X4_addToSums_29, s_X4_addToSums_29n, s_X4_addToSums_29z, s_X4_addToSums_31, s_X4_addToSums_34, s_X4_addToSums_37, s_X4_addToSums_37n, s_X4_addToSums_37z, s_X4_addToSums_39, s_X4_addToSums_42, s_X4_addToSums_43, s_X4_addToSums_46, s_X4_addToSums_46n, s_X4_addToSums_46z, s_X4_addToSums_48, s_X4_addToSums_49, s_X4_addToSums_52, s_X4_addToSums_53, s_X4_addToSums_54, s_X4_addToSums_57, s_X4_addToSums_60, tl_some, tl_none, cv_int, cv_ref, cv_null, cv_long, cat_rf, jcv_nil, jcat_cons, jv_none, jv_int, jv_ref, jv_null, jw_rf, rf_some, rf_none, bz_0, bz_1, i1_0, i0_0, if_true, if_false, ite_self, List.nil_append, List.cons_append, Nat.reduceAdd, Nat.reduceLeDiff, Nat.zero_le, Nat.le_refl, and_self, and_true, true_and, not_true_eq_false, not_false_eq_true, reduceIte, c1, c2, hLg1, l_size hLg1, hsz, h1, hg, g1, g4, m1, hs, g6]
      exact ih (k + 1) (by omega) _ _ (fin1 (Or.inl m1)) (fun J' r1 r2 => K J' r1 (fun κ hκ => (r2 κ hκ).trans (ups_o hκ)))
    · by_cases m2 : A 75 (k + 1) = nI det
      · have m3 : ¬ nI det = 0 := fun q => m1 (m2.trans q)
        simp only [s_X4_addToSums_5, s_X4_addToSums_5n, s_X4_addToSums_5z, s_X4_addToSums_6, s_X4_addToSums_9, s_X4_addToSums_12, s_X4_addToSums_15, s_X4_addToSums_15n, s_X4_addToSums_15z, s_X4_addToSums_16, s_X4_addToSums_19, s_X4_addToSums_21, s_X4_addToSums_24, s_X4_addToSums_24z, s_X4_addToSums_27, s_X4_addToSums_27n, s_X4_addToSums_27z, s_X4_addToSums_29, s_X4_addToSums_29n, s_X4_addToSums_29z, s_X4_addToSums_31, s_X4_addToSums_34, s_X4_addToSums_37, s_X4_addToSums_37n, s_X4_addToSums_37z, s_X4_addToSums_39, s_X4_addToSums_42, s_X4_addToSums_43, s_X4_addToSums_46, s_X4_addToSums_46n, s_X4_addToSums_46z, s_X4_addToSums_48, s_X4_addToSums_49, s_X4_addToSums_52, s_X4_addToSums_53, s_X4_addToSums_54, s_X4_addToSums_57, s_X4_addToSums_60, tl_some, tl_none, cv_int, cv_ref, cv_null, cv_long, cat_rf, jcv_nil, jcat_cons, jv_none, jv_int, jv_ref, jv_null, jw_rf, rf_some, rf_none, bz_0, bz_1, i1_0, i0_0, if_true, if_false, ite_self, List.nil_append, List.cons_append, Nat.reduceAdd, Nat.reduceLeDiff, Nat.zero_le, Nat.le_refl, and_self, and_true, true_and, not_true_eq_false, not_false_eq_true, reduceIte, c1, c2, hLg1, l_size hLg1, hsz, h1, hg, g1, g4, m2, m3, hs, g6]
        refine ih (k + 1) (by omega) _ _ (fin1 (Or.inr ⟨?_, m2⟩)) (fun J' r1 r2 => K J' r1 (fun κ hκ => (r2 κ hκ).trans (ups_o hκ)))
        rw [m2]
        exact nI_lt (a := 0) (by
          by_cases e : det = 0
          · subst e; exact absurd rfl m3
          · omega) (by omega)
      · simp only [s_X4_addToSums_5, s_X4_addToSums_5n, s_X4_addToSums_5z, s_X4_addToSums_6, s_X4_addToSums_9, s_X4_addToSums_12, s_X4_addToSums_15, s_X4_addToSums_15n, s_X4_addToSums_15z, s_X4_addToSums_16, s_X4_addToSums_19, s_X4_addToSums_21, s_X4_addToSums_24, s_X4_addToSums_24z, s_X4_addToSums_27, s_X4_addToSums_27n, s_X4_addToSums_27z, s_X4_addToSums_29, s_X4_addToSums_29n, s_X4_addToSums_29z, s_X4_addToSums_31, s_X4_addToSums_34, s_X4_addToSums_37, s_X4_addToSums_37n, s_X4_addToSums_37z, s_X4_addToSums_39, s_X4_addToSums_42, s_X4_addToSums_43, s_X4_addToSums_46, s_X4_addToSums_46n, s_X4_addToSums_46z, s_X4_addToSums_48, s_X4_addToSums_49, s_X4_addToSums_52, s_X4_addToSums_53, s_X4_addToSums_54, s_X4_addToSums_57, s_X4_addToSums_60, tl_some, tl_none, cv_int, cv_ref, cv_null, cv_long, cat_rf, jcv_nil, jcat_cons, jv_none, jv_int, jv_ref, jv_null, jw_rf, rf_some, rf_none, bz_0, bz_1, i1_0, i0_0, if_true, if_false, ite_self, List.nil_append, List.cons_append, Nat.reduceAdd, Nat.reduceLeDiff, Nat.zero_le, Nat.le_refl, and_self, and_true, true_and, not_true_eq_false, not_false_eq_true, reduceIte, c1, c2, hLg1, l_size hLg1, hsz, h1, hg, g1, g4, m1, m2, hs]
        refine ih (k + 1) (by omega) _ _ ?_ K
        show Rel sv ω t g I _ P A (upT (adT A T (nI det) X k) (k + 1) (adT A T (nI det) X k (k + 1) + (if tk A (k + 1) (nI det) then X else 0))) tb ub
        rw [if_neg (c := tk A (k + 1) (nI det)) (fun q => q.elim m1 (fun q => m2 q.2)), Int64.add_zero, upT_id]
        exact hR
theorem c_addTo {det : Nat} (hd : det ≤ 20) {X : Int64} (hR : Rel sv ω t g I J P A T tb ub) (K : ∀ J' : tJ, Rel sv ω t g I J' P A (adT A T (nI det) X (nsA A)) tb ub → (∀ κ, κ ≠ 5 → J' κ = J κ) → Q none (tv t u g I J' P)) :
    Ev sv (d + 3) (49, 0, [some (.ref (ω.1 0)), some (.int (nI det)), some (.long X), none, none, none], []) (tv t u g I J P) Q := by
  simp only [s_X4_addToSums_0, s_X4_addToSums_1, tl_some, tl_none, cv_int, cv_ref, cv_null, cv_long, cat_rf, jcv_nil, jcat_cons, jv_none, jv_int, jv_ref, jv_null, jw_rf, rf_some, rf_none, bz_0, bz_1, i1_0, i0_0, if_true, if_false, ite_self, List.nil_append, List.cons_append, Nat.reduceAdd, Nat.reduceLeDiff, Nat.zero_le, Nat.le_refl, and_self, and_true, true_and, not_true_eq_false, not_false_eq_true, reduceIte]
  exact c_addTo_loop hd (nsA A) 0 (by omega) J none hR K
end
