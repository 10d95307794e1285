-- ===== sum =====
/-- sums are rolled from sums that are there -/
def Z1 (A : Nat → Nat → Int32) : Prop := ∀ t, 1 ≤ t → t ≤ nsA A → A 75 t < 0 → isS A (0 - A 75 t)
theorem neg_pos {x : Int32} (h : 0 < x) : ¬ 0 < 0 - x := by
  intro q
  have h1 := i32_lt.mp h
  have h2 := i32_lt.mp q
  rw [Int32.zero_sub, Int32.toInt_neg] at h2
  have h3 := x.toInt_lt
  have h0 : (0 : Int32).toInt = 0 := rfl
  rw [h0] at h1 h2
  rw [Int.bmod_def] at h2
  omega
def sI (I : tI) (t : Nat) (a b c e : Int32) : tI := ups (ups (ups (ups (upc I 5 t (fun _ => 0)) 5 0 t a) 5 1 t b) 5 2 t c) 5 3 t e
def sJ (J : tJ) (t : Nat) : tJ := ups (upc J 5 t (fun _ => 0)) 5 4 t 0
def sP (P : tP) (t : Nat) : tP := upc P 5 t (fun _ => none)
theorem sI_old {I : tI} {t : Nat} {a b c e : Int32} {κ j w : Nat} (h : ¬ (κ = 5 ∧ w = t)) : sI I t a b c e κ j w = I κ j w := by
  have z : ∀ (f : tI) (j' : Nat) (v : Int32), ups f 5 j' t v κ j w = f κ j w := fun f j' v => by rw [ups_ap, if_neg (fun q => h ⟨q.1, q.2.2⟩)]
  unfold sI
  rw [z, z, z, z, upc_ap, if_neg (fun q => h q)]
theorem sI_new {I : tI} {t : Nat} {a b c e : Int32} : sI I t a b c e 5 0 t = a ∧ sI I t a b c e 5 1 t = b ∧ sI I t a b c e 5 2 t = c ∧ sI I t a b c e 5 3 t = e := by
  unfold sI
  refine ⟨?_, ?_, ?_, ?_⟩ <;> simp [ups_ap]
section
variable {A : Nat → Nat → Int32} {x y z : Int32}
theorem sumA_o {κ j : Nat} (h7 : ¬ (κ = 7 ∧ j = 6)) (h : ¬ ((κ = 74 ∨ κ = 75 ∨ κ = 76) ∧ j = nsA A + 1)) : sumA A x y z κ j = cdA A κ j := by
  unfold sumA
  rw [upA_ap, if_neg (fun q => h ⟨by omega, q.2⟩), upA_ap, if_neg (fun q => h ⟨by omega, q.2⟩), upA_ap, if_neg (fun q => h ⟨by omega, q.2⟩), upA_ap, if_neg h7]
theorem sumA_74 : sumA A x y z 74 (nsA A + 1) = x := by
  unfold sumA
  rw [upA_ap, if_neg (fun q => absurd q.1 (by decide)), upA_ap, if_neg (fun q => absurd q.1 (by decide)), upA_ap, if_pos ⟨rfl, rfl⟩]
theorem sumA_75 : sumA A x y z 75 (nsA A + 1) = y := by
  unfold sumA
  rw [upA_ap, if_neg (fun q => absurd q.1 (by decide)), upA_ap, if_pos ⟨rfl, rfl⟩]
theorem sumA_76 : sumA A x y z 76 (nsA A + 1) = z := by
  unfold sumA
  rw [upA_ap, if_pos ⟨rfl, rfl⟩]
theorem sumA_6 : sumA A x y z 7 6 = nI (nsA A + 1) := by
  unfold sumA
  rw [upA_ap, if_neg (fun q => absurd q.1 (by decide)), upA_ap, if_neg (fun q => absurd q.1 (by decide)), upA_ap, if_neg (fun q => absurd q.1 (by decide)), upA_ap, if_pos ⟨rfl, rfl⟩]
theorem sumA_ns (h : nsA A < 20) : nsA (sumA A x y z) = nsA A + 1 := by
  show (sumA A x y z 7 6).toNatClampNeg = _
  rw [sumA_6]
  exact nI_clamp (by omega)
theorem sumA_wf (hw : WfA A) (h : nsA A < 20) {gi : Nat} (hx : x = nI gi) (h1 : 1 ≤ gi) (h2 : gi ≤ ngA A) : WfA (sumA A x y z) := by
  have h20 := hw.1.2
  have o7 : ∀ j, j ≠ 6 → sumA A x y z 7 j = cdA A 7 j := fun j hj => sumA_o (by omega) (by omega)
  have eng : ngA (sumA A x y z) = ngA A := by unfold ngA; rw [o7 5 (by decide)]; rfl
  have enc : ncA (sumA A x y z) = ncA A := by unfold ncA; rw [o7 4 (by decide)]; rfl
  have emn : ∀ i, mnA (sumA A x y z) i = mnA A i := fun i => by unfold mnA; rw [sumA_o (by omega) (by omega)]; rfl
  refine ⟨by rw [eng, o7 5 (by decide)]; exact hw.1, ⟨by rw [sumA_ns h]; exact sumA_6, by rw [sumA_ns h]; omega⟩, by rw [enc, o7 4 (by decide)]; exact hw.2.2.1, fun i => by rw [emn, sumA_o (by omega) (by omega)]; exact hw.2.2.2.1 i, fun s q1 q2 => ?_⟩
  rw [sumA_ns h] at q2
  rw [eng]
  by_cases e : s = nsA A + 1
  · rw [e, sumA_74, hx, nI_clamp (by omega)]
    exact ⟨rfl, h1, h2⟩
  · rw [sumA_o (by omega) (by omega)]
    exact hw.2.2.2.2 s q1 (by omega)
theorem sumA_inv {ω ω' : Wd} {I I' : tI} {st : Nat} (hw : WfA A) (hV : Inv ω I A st) (h21 : A 7 21 = 0) (h : nsA A < 20) (hz1 : Z1 A) {gi : Nat} (hx : x = nI gi) (h1 : 1 ≤ gi) (h2 : gi ≤ ngA A) (h4 : A 66 gi = 4) (hof : isOfA A x y) (hT : RT ω' I' (sumA A x y z) st) : Inv ω' I' (sumA A x y z) st ∧ Z1 (sumA A x y z) := by
  have h20 := hw.1.2
  have hns := hw.2.1
  have o7 : ∀ j, j ≠ 6 → sumA A x y z 7 j = cdA A 7 j := fun j hj => sumA_o (by omega) (by omega)
  have o : ∀ κ j, κ ≠ 7 → κ ≠ 74 → κ ≠ 75 → κ ≠ 76 → sumA A x y z κ j = cdA A κ j := fun κ j a1 a2 a3 a4 => sumA_o (by omega) (by omega)
  have ens := sumA_ns (x := x) (y := y) (z := z) h
  have eng : ngA (sumA A x y z) = ngA A := by unfold ngA; rw [o7 5 (by decide)]; rfl
  have hclx : x.toNatClampNeg = gi := by rw [hx]; exact nI_clamp (by omega)
  have old : ∀ s, s ≤ nsA A → sumA A x y z 74 s = A 74 s ∧ sumA A x y z 75 s = A 75 s := fun s hs => ⟨sumA_o (by omega) (by omega), sumA_o (by omega) (by omega)⟩
  have hIc := hV.cd
  have hb : ∀ κ j, (κ = 66 ∨ κ = 67 ∨ κ = 68 ∨ κ = 69 ∨ κ = 70 ∨ κ = 72) → sumA A x y z κ j = cdA A κ j := fun κ j q => o κ j (by omega) (by omega) (by omega) (by omega)
  -- a sum whose source is s
  have srcn : ∀ s, 1 ≤ s → s ≤ nsA A + 1 → y = 0 - nI s → s ≤ nsA A ∧ A 67 gi < A 67 (A 74 s).toNatClampNeg := by
    intro s q1 q2 q3
    have e : 0 - y = nI s := by rw [q3, neg0]
    have hneg : y < 0 := by rw [q3]; exact neg_lt_z q1 (by omega)
    rcases hof with q | q | q
    · rw [q] at hneg; exact absurd hneg (by decide)
    · exact absurd hneg (i32_neg q.1.1)
    · rw [e, hclx, nI_clamp (by omega)] at q
      refine ⟨?_, q.2⟩
      have := q.1.2
      rw [hns.1] at this
      by_cases c : s ≤ nsA A
      · exact c
      · exact absurd (nI_lt (a := nsA A) (b := s) (by omega) (by omega)) this
  have e21 : sumA A x y z 7 21 = 0 := (o7 21 (by decide)).trans h21
  have eln : ln (sumA A x y z) = ln A := by unfold ln; rw [o7 28 (by decide)]; rfl
  obtain ⟨n, hn1, hn2, hn3, hn4⟩ := hV.2.2.2.2.1
  refine ⟨⟨hIc.1.cg (fun κ j q => ?_), fun j hj => ?_, ⟨⟨fun s q1 q2 => ?_, fun t s q1 q2 q3 q4 q5 => ?_⟩, hIc.2.2.1.2.cg (fun κ j q => ?_)⟩, hT, ⟨n, by rw [o7 22 (by decide)]; exact hn1, hn2, by rw [eln]; exact hn3, fun q => absurd e21 q⟩, fun q => absurd e21 q, fun q => absurd e21 q⟩, fun t q1 q2 q3 => ?_⟩
  · rcases q with q | q | q | q | q | q
    · exact hb κ j (by omega)
    · exact hb κ j (by omega)
    · exact hb κ j (by omega)
    · exact hb κ j (by omega)
    · exact hb κ j (by omega)
    · rw [q.1]; exact o7 j (by omega)
  · have enc : ncA (sumA A x y z) = ncA A := by unfold ncA; rw [o7 4 (by decide)]; rfl
    rw [enc] at hj
    rw [o 64 _ (by decide) (by decide) (by decide) (by decide), o 65 _ (by decide) (by decide) (by decide) (by decide)]
    exact hIc.2.1 j hj
  · rw [ens] at q2
    by_cases e : s = nsA A + 1
    · rw [e, sumA_74, hclx, hb 66 _ (by omega)]
      exact h4
    · rw [(old s (by omega)).1, hb 66 _ (by omega)]
      exact hIc.2.2.1.1.1 s q1 (by show s ≤ nsA A; omega)
  · rw [ens] at q2 q4
    rw [hb 67 _ (by omega), hb 67 _ (by omega)]
    by_cases e1 : t = nsA A + 1
    · rw [e1, sumA_75] at q5
      obtain ⟨b1, b2⟩ := srcn s q3 q4 q5
      rw [e1, sumA_74, hclx, (old s b1).1]
      exact b2
    · rw [(old t (by omega)).2] at q5
      by_cases e2 : s = nsA A + 1
      · exfalso
        have hneg : A 75 t < 0 := by rw [q5]; exact neg_lt_z q3 (by omega)
        have := (hz1 t q1 (by omega) hneg).2
        rw [q5, neg0, hns.1, e2] at this
        exact this (nI_lt (by omega) (by omega))
      · rw [(old t (by omega)).1, (old s (by omega)).1]
        exact hIc.2.2.1.1.2 t s q1 (by show t ≤ nsA A; omega) q3 (by show s ≤ nsA A; omega) q5
  · rcases q with q | q | q | q | q
    · exact hb κ j (by omega)
    · exact hb κ j (by omega)
    · exact hb κ j (by omega)
    · exact hb κ j (by omega)
    · rw [q.1]; exact o7 j (by omega)
  · rw [ens] at q2
    unfold isS
    rw [sumA_6]
    by_cases e : t = nsA A + 1
    · rw [e, sumA_75] at q3 ⊢
      rcases hof with q | q | q
      · rw [q] at q3; exact absurd q3 (by decide)
      · exact absurd q3 (i32_neg q.1.1)
      · refine ⟨q.1.1, fun w => q.1.2 ?_⟩
        rw [hns.1]
        exact i32_lt.mpr (Int.lt_trans (i32_lt.mp (nI_lt (a := nsA A) (b := nsA A + 1) (by omega) (by omega))) (i32_lt.mp w))
    · rw [(old t (by omega)).2] at q3 ⊢
      have := hz1 t q1 (by omega) q3
      refine ⟨this.1, fun w => this.2 ?_⟩
      rw [hns.1]
      exact i32_lt.mpr (Int.lt_trans (i32_lt.mp (nI_lt (a := nsA A) (b := nsA A + 1) (by omega) (by omega))) (i32_lt.mp w))
end
section
variable {sv : Nat → Value} {d t u : Nat} {Q : Option Value → jM → Prop} {g : jG} {I I' : tI} {J : tJ} {P : tP} {A B : Nat → Nat → Int32} {T T' : Nat → Int64} {ω : Wd} {tb ub st : Nat} {x y z : Int32}
theorem c_isSumm (hR : Rel sv ω t g I J P A T tb ub) {gi : Nat} (hx : x.toNatClampNeg = gi) : Ev sv (d + 4) (33, 0, [some (.ref (ω.1 0)), some (.int y), some (.int (A 67 gi)), none], []) (tv t u g I J P) Q ↔ if isOfA A x y then Q (some (.int 1)) (tv t u g I J P) else Q (some (.int 0)) (tv t u g I J P) := by
  have c1 := hR.1.1
  have hw := hR.2.2.2.2.2.2.2.1
  have h20 := hw.1
  have hns := hw.2.1
  have hgn := fun (Q : Option Value → jM → Prop) => c_groupNumbered (Q := Q) (sv := sv) (d := d) (u := u) (x := y) hR
  have hsn := fun (Q : Option Value → jM → Prop) => c_sumNumbered (Q := Q) (sv := sv) (d := d) (u := u) (x := 0 - y) hR
  have hneg : -y = 0 - y := (Int32.zero_sub _).symm
  by_cases h0 : y = 0
  · rw [if_pos (c := isOfA A x y) (Or.inl h0)]
    simp only [s_X4_isSummable_0, s_X4_isSummable_1, s_X4_isSummable_4, s_X4_isSummable_5, s_X4_isSummable_6, s_X4_isSummable_7, s_X4_isSummable_10, s_X4_isSummable_10n, s_X4_isSummable_10z, s_X4_isSummable_11, s_X4_isSummable_12, s_X4_isSummable_15, s_X4_isSummable_15n, s_X4_isSummable_15z, s_X4_isSummable_16, s_X4_isSummable_16n, s_X4_isSummable_16z, s_X4_isSummable_17n, s_X4_isSummable_17, s_X4_isSummable_17z, s_X4_isSummable_20, s_X4_isSummable_20n, s_X4_isSummable_20z, s_X4_isSummable_21, s_X4_isSummable_24, s_X4_isSummable_25, s_X4_isSummable_28, s_X4_isSummable_29, s_X4_isSummable_32, s_X4_isSummable_33, s_X4_isSummable_34, s_X4_isSummable_34n, s_X4_isSummable_34z, s_X4_isSummable_35, s_X4_isSummable_36, s_X4_isSummable_37, s_X4_isSummable_40, s_X4_isSummable_40n, s_X4_isSummable_40z, s_X4_isSummable_41, s_X4_isSummable_41n, s_X4_isSummable_41z, s_X4_isSummable_42n, s_X4_isSummable_42, s_X4_isSummable_42z, s_X4_isSummable_45, s_X4_isSummable_45n, s_X4_isSummable_45z, s_X4_isSummable_46, s_X4_isSummable_49, s_X4_isSummable_50, s_X4_isSummable_53, s_X4_isSummable_54, s_X4_isSummable_57, s_X4_isSummable_58, tl_some, tl_none, cv_int, cv_ref, cv_null, cv_long, cat_rf, jcv_nil, jcat_cons, jv_none, jv_int, jv_ref, jv_null, jw_rf, rf_some, rf_none, bz_0, bz_1, i1_0, i0_0, if_true, if_false, ite_self, List.nil_append, List.cons_append, Nat.reduceAdd, Nat.reduceLeDiff, Nat.zero_le, Nat.le_refl, and_self, and_true, true_and, not_true_eq_false, not_false_eq_true, reduceIte, h0]
  by_cases hp : 0 < y
  · have hno := neg_pos hp
    by_cases hg : isG A y
    · have hr := nI_range hg.1 (by rw [← h20.1]; exact hg.2) (by omega)
      have g1 := (hR.2.2.1.2.1 (y.toNatClampNeg - 1) (by omega)).1
      have g6 := (hR.2.2.1.2.1 (y.toNatClampNeg - 1) (by omega)).2.2.2.2.2.1
      have e1 : y.toNatClampNeg - 1 + 1 = y.toNatClampNeg := by omega
      rw [e1] at g6
      by_cases h3 : A 66 y.toNatClampNeg = 3
      · rw [if_pos (c := isOfA A x y) (Or.inr (Or.inl ⟨hg, h3⟩))]
        simp only [s_X4_isSummable_0, s_X4_isSummable_1, s_X4_isSummable_4, s_X4_isSummable_5, s_X4_isSummable_6, s_X4_isSummable_7, s_X4_isSummable_10, s_X4_isSummable_10n, s_X4_isSummable_10z, s_X4_isSummable_11, s_X4_isSummable_12, s_X4_isSummable_15, s_X4_isSummable_15n, s_X4_isSummable_15z, s_X4_isSummable_16, s_X4_isSummable_16n, s_X4_isSummable_16z, s_X4_isSummable_17n, s_X4_isSummable_17, s_X4_isSummable_17z, s_X4_isSummable_20, s_X4_isSummable_20n, s_X4_isSummable_20z, s_X4_isSummable_21, s_X4_isSummable_24, s_X4_isSummable_25, s_X4_isSummable_28, s_X4_isSummable_29, s_X4_isSummable_32, s_X4_isSummable_33, s_X4_isSummable_34, s_X4_isSummable_34n, s_X4_isSummable_34z, s_X4_isSummable_35, s_X4_isSummable_36, s_X4_isSummable_37, s_X4_isSummable_40, s_X4_isSummable_40n, s_X4_isSummable_40z, s_X4_isSummable_41, s_X4_isSummable_41n, s_X4_isSummable_41z, s_X4_isSummable_42n, s_X4_isSummable_42, s_X4_isSummable_42z, s_X4_isSummable_45, s_X4_isSummable_45n, s_X4_isSummable_45z, s_X4_isSummable_46, s_X4_isSummable_49, s_X4_isSummable_50, s_X4_isSummable_53, s_X4_isSummable_54, s_X4_isSummable_57, s_X4_isSummable_58, tl_some, tl_none, cv_int, cv_ref, cv_null, cv_long, cat_rf, jcv_nil, jcat_cons, jv_none, jv_int, jv_ref, jv_null, jw_rf, rf_some, rf_none, bz_0, bz_1, i1_0, i0_0, if_true, if_false, ite_self, List.nil_append, List.cons_append, Nat.reduceAdd, Nat.reduceLeDiff, Nat.zero_le, Nat.le_refl, and_self, and_true, true_and, not_true_eq_false, not_false_eq_true, reduceIte, h0, hp, c1, hgn, if_pos (c := isG A y) hg, g1, g6, h3]
      · rw [if_neg (c := isOfA A x y) (fun q => by
          rcases q with q | q | q
          · exact h0 q
          · exact h3 q.2
          · exact hno q.1.1)]
        simp only [s_X4_isSummable_0, s_X4_isSummable_1, s_X4_isSummable_4, s_X4_isSummable_5, s_X4_isSummable_6, s_X4_isSummable_7, s_X4_isSummable_10, s_X4_isSummable_10n, s_X4_isSummable_10z, s_X4_isSummable_11, s_X4_isSummable_12, s_X4_isSummable_15, s_X4_isSummable_15n, s_X4_isSummable_15z, s_X4_isSummable_16, s_X4_isSummable_16n, s_X4_isSummable_16z, s_X4_isSummable_17n, s_X4_isSummable_17, s_X4_isSummable_17z, s_X4_isSummable_20, s_X4_isSummable_20n, s_X4_isSummable_20z, s_X4_isSummable_21, s_X4_isSummable_24, s_X4_isSummable_25, s_X4_isSummable_28, s_X4_isSummable_29, s_X4_isSummable_32, s_X4_isSummable_33, s_X4_isSummable_34, s_X4_isSummable_34n, s_X4_isSummable_34z, s_X4_isSummable_35, s_X4_isSummable_36, s_X4_isSummable_37, s_X4_isSummable_40, s_X4_isSummable_40n, s_X4_isSummable_40z, s_X4_isSummable_41, s_X4_isSummable_41n, s_X4_isSummable_41z, s_X4_isSummable_42n, s_X4_isSummable_42, s_X4_isSummable_42z, s_X4_isSummable_45, s_X4_isSummable_45n, s_X4_isSummable_45z, s_X4_isSummable_46, s_X4_isSummable_49, s_X4_isSummable_50, s_X4_isSummable_53, s_X4_isSummable_54, s_X4_isSummable_57, s_X4_isSummable_58, tl_some, tl_none, cv_int, cv_ref, cv_null, cv_long, cat_rf, jcv_nil, jcat_cons, jv_none, jv_int, jv_ref, jv_null, jw_rf, rf_some, rf_none, bz_0, bz_1, i1_0, i0_0, if_true, if_false, ite_self, List.nil_append, List.cons_append, Nat.reduceAdd, Nat.reduceLeDiff, Nat.zero_le, Nat.le_refl, and_self, and_true, true_and, not_true_eq_false, not_false_eq_true, reduceIte, h0, hp, c1, hgn, if_pos (c := isG A y) hg, g1, g6, h3]
    · rw [if_neg (c := isOfA A x y) (fun q => by
        rcases q with q | q | q
        · exact h0 q
        · exact hg q.1
        · exact hno q.1.1)]
      simp only [s_X4_isSummable_0, s_X4_isSummable_1, s_X4_isSummable_4, s_X4_isSummable_5, s_X4_isSummable_6, s_X4_isSummable_7, s_X4_isSummable_10, s_X4_isSummable_10n, s_X4_isSummable_10z, s_X4_isSummable_11, s_X4_isSummable_12, s_X4_isSummable_15, s_X4_isSummable_15n, s_X4_isSummable_15z, s_X4_isSummable_16, s_X4_isSummable_16n, s_X4_isSummable_16z, s_X4_isSummable_17n, s_X4_isSummable_17, s_X4_isSummable_17z, s_X4_isSummable_20, s_X4_isSummable_20n, s_X4_isSummable_20z, s_X4_isSummable_21, s_X4_isSummable_24, s_X4_isSummable_25, s_X4_isSummable_28, s_X4_isSummable_29, s_X4_isSummable_32, s_X4_isSummable_33, s_X4_isSummable_34, s_X4_isSummable_34n, s_X4_isSummable_34z, s_X4_isSummable_35, s_X4_isSummable_36, s_X4_isSummable_37, s_X4_isSummable_40, s_X4_isSummable_40n, s_X4_isSummable_40z, s_X4_isSummable_41, s_X4_isSummable_41n, s_X4_isSummable_41z, s_X4_isSummable_42n, s_X4_isSummable_42, s_X4_isSummable_42z, s_X4_isSummable_45, s_X4_isSummable_45n, s_X4_isSummable_45z, s_X4_isSummable_46, s_X4_isSummable_49, s_X4_isSummable_50, s_X4_isSummable_53, s_X4_isSummable_54, s_X4_isSummable_57, s_X4_isSummable_58, tl_some, tl_none, cv_int, cv_ref, cv_null, cv_long, cat_rf, jcv_nil, jcat_cons, jv_none, jv_int, jv_ref, jv_null, jw_rf, rf_some, rf_none, bz_0, bz_1, i1_0, i0_0, if_true, if_false, ite_self, List.nil_append, List.cons_append, Nat.reduceAdd, Nat.reduceLeDiff, Nat.zero_le, Nat.le_refl, and_self, and_true, true_and, not_true_eq_false, not_false_eq_true, reduceIte, h0, hp, c1, hgn, if_neg (c := isG A y) hg]
  · by_cases hs : isS A (0 - y)
    · have hr := nI_range hs.1 (by rw [← hns.1]; exact hs.2) (by omega)
      obtain ⟨s1, s2, s3, s4, s5, s6⟩ := hR.2.2.2.1.2.1 ((0 - y).toNatClampNeg - 1) (by omega)
      have e1 : (0 - y).toNatClampNeg - 1 + 1 = (0 - y).toNatClampNeg := by omega
      rw [e1] at s3
      by_cases hl : A 67 gi < A 67 (A 74 (0 - y).toNatClampNeg).toNatClampNeg
      · rw [if_pos (c := isOfA A x y) (Or.inr (Or.inr ⟨hs, by rw [hx]; exact hl⟩))]
        simp only [s_X4_isSummable_0, s_X4_isSummable_1, s_X4_isSummable_4, s_X4_isSummable_5, s_X4_isSummable_6, s_X4_isSummable_7, s_X4_isSummable_10, s_X4_isSummable_10n, s_X4_isSummable_10z, s_X4_isSummable_11, s_X4_isSummable_12, s_X4_isSummable_15, s_X4_isSummable_15n, s_X4_isSummable_15z, s_X4_isSummable_16, s_X4_isSummable_16n, s_X4_isSummable_16z, s_X4_isSummable_17n, s_X4_isSummable_17, s_X4_isSummable_17z, s_X4_isSummable_20, s_X4_isSummable_20n, s_X4_isSummable_20z, s_X4_isSummable_21, s_X4_isSummable_24, s_X4_isSummable_25, s_X4_isSummable_28, s_X4_isSummable_29, s_X4_isSummable_32, s_X4_isSummable_33, s_X4_isSummable_34, s_X4_isSummable_34n, s_X4_isSummable_34z, s_X4_isSummable_35, s_X4_isSummable_36, s_X4_isSummable_37, s_X4_isSummable_40, s_X4_isSummable_40n, s_X4_isSummable_40z, s_X4_isSummable_41, s_X4_isSummable_41n, s_X4_isSummable_41z, s_X4_isSummable_42n, s_X4_isSummable_42, s_X4_isSummable_42z, s_X4_isSummable_45, s_X4_isSummable_45n, s_X4_isSummable_45z, s_X4_isSummable_46, s_X4_isSummable_49, s_X4_isSummable_50, s_X4_isSummable_53, s_X4_isSummable_54, s_X4_isSummable_57, s_X4_isSummable_58, tl_some, tl_none, cv_int, cv_ref, cv_null, cv_long, cat_rf, jcv_nil, jcat_cons, jv_none, jv_int, jv_ref, jv_null, jw_rf, rf_some, rf_none, bz_0, bz_1, i1_0, i0_0, if_true, if_false, ite_self, List.nil_append, List.cons_append, Nat.reduceAdd, Nat.reduceLeDiff, Nat.zero_le, Nat.le_refl, and_self, and_true, true_and, not_true_eq_false, not_false_eq_true, reduceIte, h0, hp, c1, hneg, hsn, if_pos (c := isS A (0 - y)) hs, s1, s3, hl]
      · rw [if_neg (c := isOfA A x y) (fun q => by
          rcases q with q | q | q
          · exact h0 q
          · exact hp q.1.1
          · rw [hx] at q; exact hl q.2)]
        simp only [s_X4_isSummable_0, s_X4_isSummable_1, s_X4_isSummable_4, s_X4_isSummable_5, s_X4_isSummable_6, s_X4_isSummable_7, s_X4_isSummable_10, s_X4_isSummable_10n, s_X4_isSummable_10z, s_X4_isSummable_11, s_X4_isSummable_12, s_X4_isSummable_15, s_X4_isSummable_15n, s_X4_isSummable_15z, s_X4_isSummable_16, s_X4_isSummable_16n, s_X4_isSummable_16z, s_X4_isSummable_17n, s_X4_isSummable_17, s_X4_isSummable_17z, s_X4_isSummable_20, s_X4_isSummable_20n, s_X4_isSummable_20z, s_X4_isSummable_21, s_X4_isSummable_24, s_X4_isSummable_25, s_X4_isSummable_28, s_X4_isSummable_29, s_X4_isSummable_32, s_X4_isSummable_33, s_X4_isSummable_34, s_X4_isSummable_34n, s_X4_isSummable_34z, s_X4_isSummable_35, s_X4_isSummable_36, s_X4_isSummable_37, s_X4_isSummable_40, s_X4_isSummable_40n, s_X4_isSummable_40z, s_X4_isSummable_41, s_X4_isSummable_41n, s_X4_isSummable_41z, s_X4_isSummable_42n, s_X4_isSummable_42, s_X4_isSummable_42z, s_X4_isSummable_45, s_X4_isSummable_45n, s_X4_isSummable_45z, s_X4_isSummable_46, s_X4_isSummable_49, s_X4_isSummable_50, s_X4_isSummable_53, s_X4_isSummable_54, s_X4_isSummable_57, s_X4_isSummable_58, tl_some, tl_none, cv_int, cv_ref, cv_null, cv_long, cat_rf, jcv_nil, jcat_cons, jv_none, jv_int, jv_ref, jv_null, jw_rf, rf_some, rf_none, bz_0, bz_1, i1_0, i0_0, if_true, if_false, ite_self, List.nil_append, List.cons_append, Nat.reduceAdd, Nat.reduceLeDiff, Nat.zero_le, Nat.le_refl, and_self, and_true, true_and, not_true_eq_false, not_false_eq_true, reduceIte, h0, hp, c1, hneg, hsn, if_pos (c := isS A (0 - y)) hs, s1, s3, hl]
    · rw [if_neg (c := isOfA A x y) (fun q => by
        rcases q with q | q | q
        · exact h0 q
        · exact hp q.1.1
        · exact hs q.1)]
      simp only [s_X4_isSummable_0, s_X4_isSummable_1, s_X4_isSummable_4, s_X4_isSummable_5, s_X4_isSummable_6, s_X4_isSummable_7, s_X4_isSummable_10, s_X4_isSummable_10n, s_X4_isSummable_10z, s_X4_isSummable_11, s_X4_isSummable_12, s_X4_isSummable_15, s_X4_isSummable_15n, s_X4_isSummable_15z, s_X4_isSummable_16, s_X4_isSummable_16n, s_X4_isSummable_16z, s_X4_isSummable_17n, s_X4_isSummable_17, s_X4_isSummable_17z, s_X4_isSummable_20, s_X4_isSummable_20n, s_X4_isSummable_20z, s_X4_isSummable_21, s_X4_isSummable_24, s_X4_isSummable_25, s_X4_isSummable_28, s_X4_isSummable_29, s_X4_isSummable_32, s_X4_isSummable_33, s_X4_isSummable_34, s_X4_isSummable_34n, s_X4_isSummable_34z, s_X4_isSummable_35, s_X4_isSummable_36, s_X4_isSummable_37, s_X4_isSummable_40, s_X4_isSummable_40n, s_X4_isSummable_40z, s_X4_isSummable_41, s_X4_isSummable_41n, s_X4_isSummable_41z, s_X4_isSummable_42n, s_X4_isSummable_42, s_X4_isSummable_42z, s_X4_isSummable_45, s_X4_isSummable_45n, s_X4_isSummable_45z, s_X4_isSummable_46, s_X4_isSummable_49, s_X4_isSummable_50, s_X4_isSummable_53, s_X4_isSummable_54, s_X4_isSummable_57, s_X4_isSummable_58, tl_some, tl_none, cv_int, cv_ref, cv_null, cv_long, cat_rf, jcv_nil, jcat_cons, jv_none, jv_int, jv_ref, jv_null, jw_rf, rf_some, rf_none, bz_0, bz_1, i1_0, i0_0, if_true, if_false, ite_self, List.nil_append, List.cons_append, Nat.reduceAdd, Nat.reduceLeDiff, Nat.zero_le, Nat.le_refl, and_self, and_true, true_and, not_true_eq_false, not_false_eq_true, reduceIte, h0, hp, c1, hneg, hsn, if_neg (c := isS A (0 - y)) hs]
end
