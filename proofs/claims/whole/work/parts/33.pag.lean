-- ===== pages =====
def WfP (A : Nat → Nat → Int32) : Prop := (∃ p0 f0 e0, A 7 1 = nI p0 ∧ p0 ≤ 100 ∧ A 7 2 = nI f0 ∧ 1 ≤ f0 ∧ f0 ≤ 100 ∧ A 7 3 = nI e0 ∧ e0 ≤ 100) ∧ (∀ gi, 1 ≤ gi → gi ≤ ngA A → ∀ k, k < mnA A gi → ∃ w, A 69 (10 * gi + k) = nI w ∧ 1 ≤ w ∧ w ≤ 100) ∧ (∀ gi, 1 ≤ gi → gi ≤ ngA A → ¬ A 66 gi = 3 → A 72 gi = 0) ∧ UqA A
theorem fr.wp {A B : Nat → Nat → Int32} (h : fr A B) (hp : WfP A) : WfP B := by
  obtain ⟨h1, h2, h3, h4⟩ := hp
  refine ⟨by rw [h 7 1 rfl, h 7 2 rfl, h 7 3 rfl]; exact h1, fun gi a1 a2 k hk => by rw [h 69 _ rfl]; exact h2 gi a1 (by rw [← h.ng]; exact a2) k (by rw [← h.mn]; exact hk), fun gi a1 a2 a3 => by rw [h 72 _ rfl]; exact h3 gi a1 (by rw [← h.ng]; exact a2) (by rw [← h 66 gi rfl]; exact a3), fun i j a1 a2 a3 a4 a5 a6 a7 => h4 i j a1 (by rw [← h.ng]; exact a2) a3 (by rw [← h.ng]; exact a4) (by rw [← h 66 i rfl]; exact a5) (by rw [← h 66 i rfl, ← h 66 j rfl]; exact a6) (by rw [← h 67 i rfl, ← h 67 j rfl]; exact a7)⟩
theorem lat_nI {A : Nat → Nat → Int32} {gi a : Nat} (h : ∀ k, k < mnA A gi → ∃ w, A 69 (10 * gi + k) = nI w ∧ 1 ≤ w ∧ w ≤ 100) : ∀ k, k < mnA A gi → ∃ s, lat A gi (nI a) k = nI (a + s) ∧ s ≤ 100 * k
  | 0, _ => ⟨0, rfl, by omega⟩
  | k + 1, hk => by
    obtain ⟨s, h1, h2⟩ := lat_nI h (a := a) k (by omega)
    obtain ⟨w, h3, h4, h5⟩ := h (k + 1) hk
    refine ⟨s + w, ?_, by omega⟩
    show lat A gi (nI a) k + A 69 (10 * gi + (k + 1)) = _
    rw [h1, h3, nI_add, Nat.add_assoc]
theorem pAllA_25 {A : Nat → Nat → Int32} {gi k : Nat} {top v : Int32} : pAllA A gi top v (k + 1) 7 25 = lat A gi top k := rfl
theorem pAllA_o {A : Nat → Nat → Int32} {gi : Nat} {top v : Int32} {κ j : Nat} (h1 : κ ≠ 78) (h2 : ¬ (κ = 7 ∧ (j = 25 ∨ j = 28))) : ∀ k, pAllA A gi top v k κ j = A κ j
  | 0 => rfl
  | k + 1 => by
    show putA (pAllA A gi top v k) gi (nI k) _ v κ j = _
    rw [putA_o h1 h2, pAllA_o h1 h2 k]
theorem frs_73 (A : Nat → Nat → Int32) : ∀ n j, frs A n 73 j = if j < n then 0 else A 73 j
  | 0, j => by rw [if_neg (by omega)]; rfl
  | n + 1, j => by
    show upA (frs A n) 73 n 0 73 j = _
    rw [upA_ap]
    by_cases h : j = n
    · rw [if_pos ⟨rfl, h⟩, if_pos (by omega)]
    · rw [if_neg (fun q => h q.2), frs_73 A n j]
      by_cases h2 : j < n
      · rw [if_pos h2, if_pos (by omega)]
      · rw [if_neg h2, if_neg (by omega)]
theorem frs_o (A : Nat → Nat → Int32) {κ j : Nat} (h : κ ≠ 73) : ∀ n, frs A n κ j = A κ j
  | 0 => rfl
  | n + 1 => by
    show upA (frs A n) 73 n 0 κ j = _
    rw [upA_ap, if_neg (fun q => h q.1), frs_o A h n]
section
variable {sv : Nat → Value} {d t u : Nat} {Q : Option Value → jM → Prop} {g : jG} {I I' : tI} {J : tJ} {P : tP} {A B : Nat → Nat → Int32} {T : Nat → Int64} {ω : Wd} {tb ub : Nat} {x y z : Int32}
/-- the object's own numbers change -/
theorem Rel.scal (hR : Rel sv ω t g I J P A T tb ub) (hC : RC ω g I' P B) (hI : ∀ κ, κ ≠ 6 → I' κ = I κ) (hB : ∀ κ j, κ ≠ 7 → κ ≠ 73 → B κ j = A κ j) (hfs : fs A B) (h28 : B 7 28 = A 7 28) : Rel sv ω t g I' J P B T tb ub := by
  obtain ⟨-, hV, hG, hS, hP, hD, htg, hw, hl, hs⟩ := hR
  refine ⟨hC, hV.congr (fun j => hB 64 j (by decide) (by decide)) (fun j => hB 65 j (by decide) (by decide)) (hI 60 (by decide)) (hI 61 (by decide)) rfl (gle_rf g), hG.congr (fun κ j h1 h2 => hB κ j (by omega) (by omega)) (hfs 7 5 rfl) (fun n f h => h.congr (by rw [hI 1 (by decide)]) rfl (fun _ _ => rfl) (gle_rf g)) (fun k b _ => by rw [hI 2 (by decide)]) (hI 62 (by decide)) rfl (gle_rf g), hS.congr (fun κ j h => hB κ j (by omega) (by omega)) (hfs 7 6 rfl) (fun n f h => h.congr (by rw [hI 1 (by decide)]) rfl (fun _ _ => rfl) (gle_rf g)) (hI 5 (by decide)) rfl (gle_rf g), hP.congr (fun j => hB 78 j (by decide) (by decide)) h28 (hI 1 (by decide)) (hI 3 (by decide)) (hI 63 (by decide)), hD, htg, hfs.wf hw, ?_, hs⟩
  have e : ln B = ln A := by unfold ln; rw [h28]
  unfold LnA
  rw [h28, e]
  exact hl
/-- a group's turn is taken -/
theorem Rel.on (hR : Rel sv ω t g I J P A T tb ub) {i : Nat} (hi : i < ngA A) : Rel sv ω t g (ups I 2 7 (ω.2.1 i) 0) J P (onA A (i + 1)) T tb ub := by
  obtain ⟨hC, hV, hG, hS, hP, hD, htg, hw, hl, hs⟩ := hR
  have hfr := onA_fr A (i + 1)
  have o : ∀ κ, κ ≠ 2 → ups I 2 7 (ω.2.1 i) 0 κ = I κ := fun κ h => ups_o h
  have oA : ∀ κ j, κ ≠ 71 → onA A (i + 1) κ j = A κ j := fun κ j h => if_neg (fun q => h q.1)
  refine ⟨hC, hV.congr (fun j => rfl) (fun j => rfl) (o 60 (by decide)) (o 61 (by decide)) rfl (gle_rf g), ?_, hS.congr (fun κ j h => oA κ j (by omega)) rfl (fun n f h => h.congr rfl rfl (fun _ _ => rfl) (gle_rf g)) (o 5 (by decide)) rfl (gle_rf g), hP.congr (fun j => rfl) rfl (o 1 (by decide)) (o 3 (by decide)) (o 63 (by decide)), hD, htg, hfr.wf hw, hl, hs⟩
  obtain ⟨h1, h2, h3, h4⟩ := hG
  have eng : ngA (onA A (i + 1)) = ngA A := rfl
  refine ⟨h1.congr rfl rfl (fun _ _ => rfl) (gle_rf g), fun j hj => ?_, h3, h4⟩
  have hj' : j < ngA A := hj
  obtain ⟨g1, g2, g3, g4, g5, g6, g7, g8, g9, g10, g11, g12⟩ := h2 j hj'
  have u7 : ∀ k, k ≠ 7 → ups I 2 7 (ω.2.1 i) 0 2 k (ω.2.1 j) = I 2 k (ω.2.1 j) := fun k hk => by rw [ups_ap, if_neg (fun q => hk q.2.1)]
  refine ⟨g1, g2, g3, g4, by rw [u7 0 (by decide)]; exact g5, by rw [u7 1 (by decide)]; exact g6, by rw [u7 2 (by decide)]; exact g7, by rw [u7 5 (by decide)]; exact g8, ?_, by rw [u7 8 (by decide)]; exact g10, ?_, ?_⟩
  · have eo : onA A (i + 1) 71 (j + 1) = if j + 1 = i + 1 then 0 else A 71 (j + 1) := by
      show upA A 71 (i + 1) 0 71 (j + 1) = _
      rw [upA_ap]
      by_cases h : j + 1 = i + 1
      · rw [if_pos ⟨rfl, h⟩, if_pos h]
      · rw [if_neg (fun q => h q.2), if_neg h]
    rw [eo]
    by_cases hij : j = i
    · subst hij
      rw [ups_ap, if_pos ⟨rfl, rfl, rfl⟩, if_pos rfl]
    · rw [ups_ap, if_neg (fun q => hij (h3 j i hj' hi q.2.2)), if_neg (by omega)]
      exact g9
  · rw [u7 3 (by decide), u7 4 (by decide)]
    exact g11
  · intro q hq
    rw [lat_congr (fun j => oA 69 j (by decide))]
    exact g12 q hq
theorem c_isOfBody {M : jM} : Ev sv d (27, 0, [some (.int x)], []) M Q ↔ if x = 2 ∨ x = 3 ∨ x = 4 then Q (some (.int 1)) M else Q (some (.int 0)) M := by
  by_cases h1 : x = 2
  · simp only [s_X4_isOfBody_0, s_X4_isOfBody_1, s_X4_isOfBody_2, s_X4_isOfBody_5, s_X4_isOfBody_6, s_X4_isOfBody_7, s_X4_isOfBody_10, s_X4_isOfBody_11, s_X4_isOfBody_12, s_X4_isOfBody_15, s_X4_isOfBody_16, s_X4_isOfBody_19, s_X4_isOfBody_20, tl_some, tl_none, cv_int, cv_ref, cv_null, cv_long, cat_rf, jcv_nil, jcat_cons, jv_none, jv_int, jv_ref, jv_null, jw_rf, rf_some, rf_none, bz_0, bz_1, i1_0, i0_0, if_true, if_false, ite_self, List.nil_append, List.cons_append, Nat.reduceAdd, Nat.reduceLeDiff, Nat.zero_le, Nat.le_refl, and_self, and_true, true_and, not_true_eq_false, not_false_eq_true, reduceIte, h1, true_or]
  by_cases h2 : x = 3
  · have : ¬ (3 : Int32) = 2 := by decide
    subst h2
    simp only [s_X4_isOfBody_0, s_X4_isOfBody_1, s_X4_isOfBody_2, s_X4_isOfBody_5, s_X4_isOfBody_6, s_X4_isOfBody_7, s_X4_isOfBody_10, s_X4_isOfBody_11, s_X4_isOfBody_12, s_X4_isOfBody_15, s_X4_isOfBody_16, s_X4_isOfBody_19, s_X4_isOfBody_20, tl_some, tl_none, cv_int, cv_ref, cv_null, cv_long, cat_rf, jcv_nil, jcat_cons, jv_none, jv_int, jv_ref, jv_null, jw_rf, rf_some, rf_none, bz_0, bz_1, i1_0, i0_0, if_true, if_false, ite_self, List.nil_append, List.cons_append, Nat.reduceAdd, Nat.reduceLeDiff, Nat.zero_le, Nat.le_refl, and_self, and_true, true_and, not_true_eq_false, not_false_eq_true, reduceIte, this, true_or, or_true]
  by_cases h3 : x = 4
  · have q1 : ¬ (4 : Int32) = 2 := by decide
    have q2 : ¬ (4 : Int32) = 3 := by decide
    subst h3
    simp only [s_X4_isOfBody_0, s_X4_isOfBody_1, s_X4_isOfBody_2, s_X4_isOfBody_5, s_X4_isOfBody_6, s_X4_isOfBody_7, s_X4_isOfBody_10, s_X4_isOfBody_11, s_X4_isOfBody_12, s_X4_isOfBody_15, s_X4_isOfBody_16, s_X4_isOfBody_19, s_X4_isOfBody_20, tl_some, tl_none, cv_int, cv_ref, cv_null, cv_long, cat_rf, jcv_nil, jcat_cons, jv_none, jv_int, jv_ref, jv_null, jw_rf, rf_some, rf_none, bz_0, bz_1, i1_0, i0_0, if_true, if_false, ite_self, List.nil_append, List.cons_append, Nat.reduceAdd, Nat.reduceLeDiff, Nat.zero_le, Nat.le_refl, and_self, and_true, true_and, not_true_eq_false, not_false_eq_true, reduceIte, q1, q2, or_true]
  · simp only [s_X4_isOfBody_0, s_X4_isOfBody_1, s_X4_isOfBody_2, s_X4_isOfBody_5, s_X4_isOfBody_6, s_X4_isOfBody_7, s_X4_isOfBody_10, s_X4_isOfBody_11, s_X4_isOfBody_12, s_X4_isOfBody_15, s_X4_isOfBody_16, s_X4_isOfBody_19, s_X4_isOfBody_20, tl_some, tl_none, cv_int, cv_ref, cv_null, cv_long, cat_rf, jcv_nil, jcat_cons, jv_none, jv_int, jv_ref, jv_null, jw_rf, rf_some, rf_none, bz_0, bz_1, i1_0, i0_0, if_true, if_false, ite_self, List.nil_append, List.cons_append, Nat.reduceAdd, Nat.reduceLeDiff, Nat.zero_le, Nat.le_refl, and_self, and_true, true_and, not_true_eq_false, not_false_eq_true, reduceIte, h1, h2, h3, or_self]
theorem c_start (hR : Rel sv ω t g I J P A T tb ub) : Ev sv (d + 1) (36, 0, [some (.ref (ω.1 0)), some (.int x), some (.int y), some (.int z)], []) (tv t u g I J P) Q ↔ Q (some (.int (if z = 0 then y else if x = 2 ∨ x = 3 ∨ x = 4 then A 7 2 else if x = 5 then A 7 3 + y else y))) (tv t u g I J P) := by
  have c1 := hR.1.1
  have c6 := hR.1.2.2.2.2.2.1
  have c7 := hR.1.2.2.2.2.2.2.1
  by_cases h1 : z = 0
  · simp only [s_X4_startOnNewPage_0, s_X4_startOnNewPage_1, s_X4_startOnNewPage_4, s_X4_startOnNewPage_5, s_X4_startOnNewPage_6, s_X4_startOnNewPage_7, s_X4_startOnNewPage_10, s_X4_startOnNewPage_13, s_X4_startOnNewPage_13n, s_X4_startOnNewPage_13z, s_X4_startOnNewPage_14, s_X4_startOnNewPage_17, s_X4_startOnNewPage_18, s_X4_startOnNewPage_19, s_X4_startOnNewPage_20, s_X4_startOnNewPage_23, s_X4_startOnNewPage_23n, s_X4_startOnNewPage_23z, s_X4_startOnNewPage_24, s_X4_startOnNewPage_27, s_X4_startOnNewPage_28, s_X4_startOnNewPage_29, s_X4_startOnNewPage_32, s_X4_startOnNewPage_33, tl_some, tl_none, cv_int, cv_ref, cv_null, cv_long, cat_rf, jcv_nil, jcat_cons, jv_none, jv_int, jv_ref, jv_null, jw_rf, rf_some, rf_none, bz_0, bz_1, i1_0, i0_0, if_true, if_false, ite_self, List.nil_append, List.cons_append, Nat.reduceAdd, Nat.reduceLeDiff, Nat.zero_le, Nat.le_refl, and_self, and_true, true_and, not_true_eq_false, not_false_eq_true, reduceIte, h1]
  by_cases h2 : x = 2 ∨ x = 3 ∨ x = 4
  · simp only [s_X4_startOnNewPage_0, s_X4_startOnNewPage_1, s_X4_startOnNewPage_4, s_X4_startOnNewPage_5, s_X4_startOnNewPage_6, s_X4_startOnNewPage_7, s_X4_startOnNewPage_10, s_X4_startOnNewPage_13, s_X4_startOnNewPage_13n, s_X4_startOnNewPage_13z, s_X4_startOnNewPage_14, s_X4_startOnNewPage_17, s_X4_startOnNewPage_18, s_X4_startOnNewPage_19, s_X4_startOnNewPage_20, s_X4_startOnNewPage_23, s_X4_startOnNewPage_23n, s_X4_startOnNewPage_23z, s_X4_startOnNewPage_24, s_X4_startOnNewPage_27, s_X4_startOnNewPage_28, s_X4_startOnNewPage_29, s_X4_startOnNewPage_32, s_X4_startOnNewPage_33, tl_some, tl_none, cv_int, cv_ref, cv_null, cv_long, cat_rf, jcv_nil, jcat_cons, jv_none, jv_int, jv_ref, jv_null, jw_rf, rf_some, rf_none, bz_0, bz_1, i1_0, i0_0, if_true, if_false, ite_self, List.nil_append, List.cons_append, Nat.reduceAdd, Nat.reduceLeDiff, Nat.zero_le, Nat.le_refl, and_self, and_true, true_and, not_true_eq_false, not_false_eq_true, reduceIte, h1, c_isOfBody, if_pos h2, c1, c6]
  by_cases h3 : x = 5
  · simp only [s_X4_startOnNewPage_0, s_X4_startOnNewPage_1, s_X4_startOnNewPage_4, s_X4_startOnNewPage_5, s_X4_startOnNewPage_6, s_X4_startOnNewPage_7, s_X4_startOnNewPage_10, s_X4_startOnNewPage_13, s_X4_startOnNewPage_13n, s_X4_startOnNewPage_13z, s_X4_startOnNewPage_14, s_X4_startOnNewPage_17, s_X4_startOnNewPage_18, s_X4_startOnNewPage_19, s_X4_startOnNewPage_20, s_X4_startOnNewPage_23, s_X4_startOnNewPage_23n, s_X4_startOnNewPage_23z, s_X4_startOnNewPage_24, s_X4_startOnNewPage_27, s_X4_startOnNewPage_28, s_X4_startOnNewPage_29, s_X4_startOnNewPage_32, s_X4_startOnNewPage_33, tl_some, tl_none, cv_int, cv_ref, cv_null, cv_long, cat_rf, jcv_nil, jcat_cons, jv_none, jv_int, jv_ref, jv_null, jw_rf, rf_some, rf_none, bz_0, bz_1, i1_0, i0_0, if_true, if_false, ite_self, List.nil_append, List.cons_append, Nat.reduceAdd, Nat.reduceLeDiff, Nat.zero_le, Nat.le_refl, and_self, and_true, true_and, not_true_eq_false, not_false_eq_true, reduceIte, h1, c_isOfBody, if_neg h2, c1, c7, if_pos h3]
  · simp only [s_X4_startOnNewPage_0, s_X4_startOnNewPage_1, s_X4_startOnNewPage_4, s_X4_startOnNewPage_5, s_X4_startOnNewPage_6, s_X4_startOnNewPage_7, s_X4_startOnNewPage_10, s_X4_startOnNewPage_13, s_X4_startOnNewPage_13n, s_X4_startOnNewPage_13z, s_X4_startOnNewPage_14, s_X4_startOnNewPage_17, s_X4_startOnNewPage_18, s_X4_startOnNewPage_19, s_X4_startOnNewPage_20, s_X4_startOnNewPage_23, s_X4_startOnNewPage_23n, s_X4_startOnNewPage_23z, s_X4_startOnNewPage_24, s_X4_startOnNewPage_27, s_X4_startOnNewPage_28, s_X4_startOnNewPage_29, s_X4_startOnNewPage_32, s_X4_startOnNewPage_33, tl_some, tl_none, cv_int, cv_ref, cv_null, cv_long, cat_rf, jcv_nil, jcat_cons, jv_none, jv_int, jv_ref, jv_null, jw_rf, rf_some, rf_none, bz_0, bz_1, i1_0, i0_0, if_true, if_false, ite_self, List.nil_append, List.cons_append, Nat.reduceAdd, Nat.reduceLeDiff, Nat.zero_le, Nat.le_refl, and_self, and_true, true_and, not_true_eq_false, not_false_eq_true, reduceIte, h1, c_isOfBody, if_neg h2, h3]
theorem c_countPage (c1 : jt g (ω.1 0) = some 6) : Ev sv d (42, 0, [some (.ref (ω.1 0))], []) (tv t u g I J P) Q ↔ Q none (tv t u g (ups (ups (ups I 6 10 (ω.1 0) (I 6 10 (ω.1 0) + 1)) 6 11 (ω.1 0) 0) 6 12 (ω.1 0) 0) J P) := by
  simp only [s_X4_countPage_0, s_X4_countPage_0n, s_X4_countPage_0z, s_X4_countPage_1, s_X4_countPage_2, s_X4_countPage_5, s_X4_countPage_6, s_X4_countPage_7, s_X4_countPage_10, s_X4_countPage_10n, s_X4_countPage_10z, s_X4_countPage_11, s_X4_countPage_12, s_X4_countPage_15, s_X4_countPage_15n, s_X4_countPage_15z, s_X4_countPage_16, s_X4_countPage_17, s_X4_countPage_20, tl_some, tl_none, cv_int, cv_ref, cv_null, cv_long, cat_rf, jcv_nil, jcat_cons, jv_none, jv_int, jv_ref, jv_null, jw_rf, rf_some, rf_none, bz_0, bz_1, i1_0, i0_0, if_true, if_false, ite_self, List.nil_append, List.cons_append, Nat.reduceAdd, Nat.reduceLeDiff, Nat.zero_le, Nat.le_refl, and_self, and_true, true_and, not_true_eq_false, not_false_eq_true, reduceIte, c1]
/-- where a group starts on a new page -/
def stN (A : Nat → Nat → Int32) (gi : Nat) : Int32 := if A 70 gi = 0 then (if inb A gi then A 7 2 else if A 66 gi = 5 then A 7 3 + A 69 (10 * gi) else A 69 (10 * gi)) else A 69 (10 * gi)
theorem GrpAt.stn {G b gi : Nat} (h : GrpAt g I P A G b gi) (hm : 0 < mnA A gi) : (if I 2 4 G = 0 then I 2 3 G else if I 2 1 G = 2 ∨ I 2 1 G = 3 ∨ I 2 1 G = 4 then A 7 2 else if I 2 1 G = 5 then A 7 3 + I 2 3 G else I 2 3 G) = stN A gi := by
  obtain ⟨g1, g2, g3, g4, g5, g6, g7, g8, g9, g10, g11, g12⟩ := h
  obtain ⟨k1, k2⟩ := g11 hm
  unfold stN
  rw [k1, g6]
  by_cases h : A 70 gi = 0
  · rw [if_pos h, if_neg (fun q => (k2.mp q) h)]
  · rw [if_neg h, if_pos (k2.mpr h)]
theorem isOA_mn (hw : WfA A) {gi : Nat} (h : isOA A gi) : 0 < mnA A gi := by
  have h5 := h.2
  rw [(hw.2.2.2.1 gi).1] at h5
  cases hz : mnA A gi with
  | zero => rw [hz] at h5; exact absurd h5 (by decide)
  | succ n => omega
/-- a head or foot of a page -/
theorem c_outside (hR : Rel sv ω t g I J P A T tb ub) {gi : Nat} {f : Int32} (hgi : gi ≤ ngA A) (hf : ¬ gi = 0 → ¬ inb A gi ∧ f = if A 66 gi = 5 then A 7 3 else 0) (hb : ln A + 10 ≤ 100000)
    (K : ∀ (t' u' : Nat) (g' : jG) (I' : tI) (J' : tJ) (P' : tP) (tb' ub' : Nat), Rel sv ω t' g' I' J' P' (turnA A gi (fun B => putFromA B gi f 0)) T tb' ub' → Nx t u g I J P tb ub t' u' g' I' J' P' tb' ub' → Kp ω I I' → Q none (tv t' u' g' I' J' P')) :
    Ev sv (d + 9) (43, 0, [some (.ref (ω.1 0)), some (va_rf (gR ω gi))], []) (tv t u g I J P) Q := by
  by_cases h0 : gi = 0
  · subst h0
    have e : gR ω 0 = none := rfl
    rw [e]
    simp only [s_X4_printOutsideBody_0, s_X4_printOutsideBody_0n, s_X4_printOutsideBody_0z, s_X4_printOutsideBody_1n, s_X4_printOutsideBody_1, s_X4_printOutsideBody_1z, s_X4_printOutsideBody_4, s_X4_printOutsideBody_4n, s_X4_printOutsideBody_4z, s_X4_printOutsideBody_5, s_X4_printOutsideBody_8, s_X4_printOutsideBody_11, s_X4_printOutsideBody_11n, s_X4_printOutsideBody_11z, s_X4_printOutsideBody_12, s_X4_printOutsideBody_12n, s_X4_printOutsideBody_12z, s_X4_printOutsideBody_13, s_X4_printOutsideBody_13n, s_X4_printOutsideBody_13z, s_X4_printOutsideBody_14, s_X4_printOutsideBody_17, s_X4_printOutsideBody_17n, s_X4_printOutsideBody_17z, s_X4_printOutsideBody_18, s_X4_printOutsideBody_21, s_X4_printOutsideBody_21n, s_X4_printOutsideBody_21z, s_X4_printOutsideBody_22, s_X4_printOutsideBody_25, s_X4_printOutsideBody_28, s_X4_printOutsideBody_28n, s_X4_printOutsideBody_28z, s_X4_printOutsideBody_29, s_X4_printOutsideBody_30, s_X4_printOutsideBody_33, tl_some, tl_none, cv_int, cv_ref, cv_null, cv_long, cat_rf, jcv_nil, jcat_cons, jv_none, jv_int, jv_ref, jv_null, jw_rf, rf_some, rf_none, bz_0, bz_1, i1_0, i0_0, if_true, if_false, ite_self, List.nil_append, List.cons_append, Nat.reduceAdd, Nat.reduceLeDiff, Nat.zero_le, Nat.le_refl, and_self, and_true, true_and, not_true_eq_false, not_false_eq_true, reduceIte]
    exact K t u g I J P tb ub hR (Nx_I (fun _ _ => rfl)) ⟨rfl, rfl, fun _ => rfl⟩
  · obtain ⟨hnb, hf⟩ := hf h0
    obtain ⟨i, rfl⟩ : ∃ i, gi = i + 1 := ⟨gi - 1, by omega⟩
    have e : gR ω (i + 1) = some (ω.2.1 i) := rfl
    rw [e]
    have hgi1 : i < ngA A := by omega
    have hG := hR.2.2.1.2.1 i hgi1
    have g1 := hG.1
    have hw := hR.2.2.2.2.2.2.2.1
    have hR1 := hR.on (i := i) hgi1
    have c1 := hR.1.1
    have hl := hR.2.2.2.2.2.2.2.2.1
    have hfr := onA_fr A (i + 1)
    have et : turnA A (i + 1) (fun B => putFromA B (i + 1) f 0) = if isOA A (i + 1) then putFromA (onA A (i + 1)) (i + 1) f 0 else onA A (i + 1) := by
      unfold turnA
      rw [if_neg h0]
    rw [et] at K
    have hN1 : Nx t u g I J P tb ub t u g (ups I 2 7 (ω.2.1 i) 0) J P tb ub := Nx_I (fun κ hκ => ups_o (by omega))
    have hK1 : Kp ω I (ups I 2 7 (ω.2.1 i) 0) := ⟨rfl, rfl, fun b => by rw [ups_ap, if_neg (fun q => absurd q.2.1 (by decide))]⟩
    by_cases h1 : isOA A (i + 1)
    · rw [if_pos h1] at K
      have hmn := isOA_mn hw h1
      have hG1 := hR1.2.2.1.2.1 i hgi1
      have hst := hG1.stn (by rw [hfr.mn]; exact hmn)
      have hsn : stN (onA A (i + 1)) (i + 1) = if onA A (i + 1) 70 (i + 1) = 0 then f + onA A (i + 1) 69 (10 * (i + 1)) else onA A (i + 1) 69 (10 * (i + 1)) := by
        unfold stN
        have e66 : onA A (i + 1) 66 (i + 1) = A 66 (i + 1) := rfl
        have e3 : onA A (i + 1) 7 3 = A 7 3 := rfl
        have hnb' : ¬ inb (onA A (i + 1)) (i + 1) := hnb
        by_cases h7 : onA A (i + 1) 70 (i + 1) = 0
        · rw [if_pos h7, if_pos h7, if_neg hnb', e66, e3, hf]
          by_cases h5 : A 66 (i + 1) = 5
          · rw [if_pos h5, if_pos h5]
          · rw [if_neg h5, if_neg h5, Int32.zero_add]
        · rw [if_neg h7, if_neg h7]
      have hcs := fun (Q : Option Value → jM → Prop) (x y z : Int32) => c_start (Q := Q) (sv := sv) (d := d + 7) (u := u) (x := x) (y := y) (z := z) hR1
      simp only [s_X4_printOutsideBody_0, s_X4_printOutsideBody_0n, s_X4_printOutsideBody_0z, s_X4_printOutsideBody_1n, s_X4_printOutsideBody_1, s_X4_printOutsideBody_1z, s_X4_printOutsideBody_4, s_X4_printOutsideBody_4n, s_X4_printOutsideBody_4z, s_X4_printOutsideBody_5, s_X4_printOutsideBody_8, s_X4_printOutsideBody_11, s_X4_printOutsideBody_11n, s_X4_printOutsideBody_11z, s_X4_printOutsideBody_12, s_X4_printOutsideBody_12n, s_X4_printOutsideBody_12z, s_X4_printOutsideBody_13, s_X4_printOutsideBody_13n, s_X4_printOutsideBody_13z, s_X4_printOutsideBody_14, s_X4_printOutsideBody_17, s_X4_printOutsideBody_17n, s_X4_printOutsideBody_17z, s_X4_printOutsideBody_18, s_X4_printOutsideBody_21, s_X4_printOutsideBody_21n, s_X4_printOutsideBody_21z, s_X4_printOutsideBody_22, s_X4_printOutsideBody_25, s_X4_printOutsideBody_28, s_X4_printOutsideBody_28n, s_X4_printOutsideBody_28z, s_X4_printOutsideBody_29, s_X4_printOutsideBody_30, s_X4_printOutsideBody_33, tl_some, tl_none, cv_int, cv_ref, cv_null, cv_long, cat_rf, jcv_nil, jcat_cons, jv_none, jv_int, jv_ref, jv_null, jw_rf, rf_some, rf_none, bz_0, bz_1, i1_0, i0_0, if_true, if_false, ite_self, List.nil_append, List.cons_append, Nat.reduceAdd, Nat.reduceLeDiff, Nat.zero_le, Nat.le_refl, and_self, and_true, true_and, not_true_eq_false, not_false_eq_true, reduceIte, hG.takes, if_pos h1, g1, c1, hcs, hst]
      refine c_printFrom (d := d) hR1 hgi1 (by have := (lnUp_same (A := A) (B := onA A (i + 1)) rfl hl).2.2; omega) (fun t' u' g' I' J' P' tb' ub' r1 r2 r3 => ?_)
      simp only [s_X4_printOutsideBody_33, tl_some, tl_none, cv_int, cv_ref, cv_null, cv_long, cat_rf, jcv_nil, jcat_cons, jv_none, jv_int, jv_ref, jv_null, jw_rf, rf_some, rf_none, bz_0, bz_1, i1_0, i0_0, if_true, if_false, ite_self, List.nil_append, List.cons_append, Nat.reduceAdd, Nat.reduceLeDiff, Nat.zero_le, Nat.le_refl, and_self, and_true, true_and, not_true_eq_false, not_false_eq_true, reduceIte]
      refine K t' u' g' I' J' P' tb' ub' ?_ (hN1.tr r2) (hK1.tr r3)
      unfold putFromA
      rw [← hsn]
      exact r1
    · rw [if_neg h1] at K
      simp only [s_X4_printOutsideBody_0, s_X4_printOutsideBody_0n, s_X4_printOutsideBody_0z, s_X4_printOutsideBody_1n, s_X4_printOutsideBody_1, s_X4_printOutsideBody_1z, s_X4_printOutsideBody_4, s_X4_printOutsideBody_4n, s_X4_printOutsideBody_4z, s_X4_printOutsideBody_5, s_X4_printOutsideBody_8, s_X4_printOutsideBody_11, s_X4_printOutsideBody_11n, s_X4_printOutsideBody_11z, s_X4_printOutsideBody_12, s_X4_printOutsideBody_12n, s_X4_printOutsideBody_12z, s_X4_printOutsideBody_13, s_X4_printOutsideBody_13n, s_X4_printOutsideBody_13z, s_X4_printOutsideBody_14, s_X4_printOutsideBody_17, s_X4_printOutsideBody_17n, s_X4_printOutsideBody_17z, s_X4_printOutsideBody_18, s_X4_printOutsideBody_21, s_X4_printOutsideBody_21n, s_X4_printOutsideBody_21z, s_X4_printOutsideBody_22, s_X4_printOutsideBody_25, s_X4_printOutsideBody_28, s_X4_printOutsideBody_28n, s_X4_printOutsideBody_28z, s_X4_printOutsideBody_29, s_X4_printOutsideBody_30, s_X4_printOutsideBody_33, tl_some, tl_none, cv_int, cv_ref, cv_null, cv_long, cat_rf, jcv_nil, jcat_cons, jv_none, jv_int, jv_ref, jv_null, jw_rf, rf_some, rf_none, bz_0, bz_1, i1_0, i0_0, if_true, if_false, ite_self, List.nil_append, List.cons_append, Nat.reduceAdd, Nat.reduceLeDiff, Nat.zero_le, Nat.le_refl, and_self, and_true, true_and, not_true_eq_false, not_false_eq_true, reduceIte, hG.takes, if_neg h1, g1, c1]
      exact K t u g _ J P tb ub hR1 hN1 hK1
end
