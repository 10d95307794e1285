-- ===== printFrom; looking groups and sums up =====
section
variable {sv : Nat → Value} {d t u : Nat} {Q : Option Value → jM → Prop} {g : jG} {I : tI} {J : tJ} {P : tP} {A : Nat → Nat → Int32} {T : Nat → Int64} {ω : Wd} {tb ub : Nat} {x y z : Int32}
theorem c_printFrom_loop {i : Nat} {start : Int32} {X : Int64} (hw : WfA A) (hi : i < ngA A) (hb : ln A + mnA A (i + 1) ≤ 100000) : ∀ n k, k + n = mnA A (i + 1) → ∀ (t u : Nat) (g : jG) (I : tI) (J : tJ) (P : tP) (tb ub : Nat), Rel sv ω t g I J P (pAllA A (i + 1) start X.toInt32 k) T tb ub →
    (∀ (t' u' : Nat) (g' : jG) (I' : tI) (J' : tJ) (P' : tP) (tb' ub' : Nat), Rel sv ω t' g' I' J' P' (putAllA A (i + 1) start X.toInt32) T tb' ub' → Nx t u g I J P tb ub t' u' g' I' J' P' tb' ub' → Kp ω I I' → Q none (tv t' u' g' I' J' P')) →
    Ev sv (d + 8) (45, 3, [some (.ref (ω.1 0)), some (.int start), some (.ref (ω.2.1 i)), some (.long X), none, some (.int (nI k))], []) (tv t u g I J P) Q := by
  have h20 := hw.1.2
  have hmn := hw.2.2.2.1 (i + 1)
  intro n
  induction n with
  | zero =>
    intro k hk t u g I J P tb ub hR K
    have e : k = mnA A (i + 1) := by omega
    have hG := hR.2.2.1.2.1 i (by rw [(pAllA_fr k).ng]; exact hi)
    have g1 := hG.1
    have g8 : I 2 5 (ω.2.1 i) = nI k := by
      have := hG.2.2.2.2.2.2.2.1
      rw [this, pAllA_fr k 68 (i + 1) rfl, hmn.1, e]
    have h1 : ¬ nI k < nI k := nI_nlt (Nat.le_refl k) (by omega)
    refine s_X4_printFrom_3.mpr ?_
    simp only [s_X4_printFrom_5, s_X4_printFrom_5n, s_X4_printFrom_5z, s_X4_printFrom_6, s_X4_printFrom_9, s_X4_printFrom_54, tl_some, tl_none, cv_int, cv_ref, cv_null, cv_long, cat_rf, jcv_nil, jcat_cons, jv_none, jv_int, jv_ref, jv_null, jw_rf, rf_some, rf_none, bz_0, bz_1, i1_0, i0_0, if_true, if_false, ite_self, List.nil_append, List.cons_append, Nat.reduceAdd, Nat.reduceLeDiff, Nat.zero_le, Nat.le_refl, and_self, and_true, true_and, not_true_eq_false, not_false_eq_true, reduceIte, g1, g8, h1]
    refine K t u g I J P tb ub ?_ (Nx_I (fun _ _ => rfl)) ⟨rfl, rfl, fun _ => rfl⟩
    unfold putAllA
    rw [← e]
    exact hR
  | succ n ih =>
    intro k hk t u g I J P tb ub hR K
    have hG := hR.2.2.1.2.1 i (by rw [(pAllA_fr k).ng]; exact hi)
    obtain ⟨g1, g2, g3, g4, g5, g6, g7, g8, g9, g10, g11, g12⟩ := hG
    have hC := hR.1
    obtain ⟨c1, c2, c3, c4, c5, c6, c7, c8, c9, c10, c11, c12, c13⟩ := hC
    have hP1 := hR.2.2.2.2.1.1
    have g8' : I 2 5 (ω.2.1 i) = nI (mnA A (i + 1)) := by rw [g8, pAllA_fr k 68 (i + 1) rfl, hmn.1]
    have h1 : nI k < nI (mnA A (i + 1)) := nI_lt (by omega) (by omega)
    have hj : jin (nI k) 10 = true := jin_nI (by omega) (by omega)
    have hc : (nI k).toNatClampNeg = k := nI_clamp (by omega)
    have hm2 : mnA (pAllA A (i + 1) start X.toInt32 k) (i + 1) = mnA A (i + 1) := (pAllA_fr k).mn _
    have g12' : I 62 k (ω.2.2.1 i) = lat A (i + 1) 0 k := by
      rw [g12 k (by rw [hm2]; omega)]
      exact lat_congr (fun j => pAllA_fr k 69 j rfl) _ _ _
    have hs := nIs k
    have hla : start + lat A (i + 1) 0 k = lat A (i + 1) start k := (lat_add A (i + 1) start k).symm
    have r1 : ∀ v, ups I 6 11 (ω.1 0) v 6 10 (ω.1 0) = pAllA A (i + 1) start X.toInt32 k 7 24 := fun v => c10
    have r2 : ∀ v, ups I 6 11 (ω.1 0) v 6 11 (ω.1 0) = v := fun v => by rw [ups_ap, if_pos ⟨rfl, rfl, rfl⟩]
    have r3 : ∀ v, ups I 6 11 (ω.1 0) v 2 0 (ω.2.1 i) = nI (i + 1) := fun v => g5
    refine s_X4_printFrom_3.mpr ?_
    simp only [s_X4_printFrom_5, s_X4_printFrom_5n, s_X4_printFrom_5z, s_X4_printFrom_6, s_X4_printFrom_9, s_X4_printFrom_12, s_X4_printFrom_12n, s_X4_printFrom_12z, s_X4_printFrom_13, s_X4_printFrom_14, s_X4_printFrom_14n, s_X4_printFrom_14z, s_X4_printFrom_15, s_X4_printFrom_18, s_X4_printFrom_20, s_X4_printFrom_21, s_X4_printFrom_22, s_X4_printFrom_25, s_X4_printFrom_25n, s_X4_printFrom_25z, s_X4_printFrom_26, s_X4_printFrom_29, s_X4_printFrom_29n, s_X4_printFrom_29z, s_X4_printFrom_30, s_X4_printFrom_33, s_X4_printFrom_33n, s_X4_printFrom_33z, s_X4_printFrom_34, s_X4_printFrom_37, s_X4_printFrom_37n, s_X4_printFrom_37z, s_X4_printFrom_38, s_X4_printFrom_41, s_X4_printFrom_43, s_X4_printFrom_44, s_X4_printFrom_45, tl_some, tl_none, cv_int, cv_ref, cv_null, cv_long, cat_rf, jcv_nil, jcat_cons, jv_none, jv_int, jv_ref, jv_null, jw_rf, rf_some, rf_none, bz_0, bz_1, i1_0, i0_0, if_true, if_false, ite_self, List.nil_append, List.cons_append, Nat.reduceAdd, Nat.reduceLeDiff, Nat.zero_le, Nat.le_refl, and_self, and_true, true_and, not_true_eq_false, not_false_eq_true, reduceIte, g1, g2, g3, g4, g8', h1, hj, hc, g12', c1, c4, hP1, hla, r1, r2, r3]
    refine c_line1 (d := d) hR (by rw [pAllA_ln k (by omega)]; omega) (fun t' u' g' I' J' P' tb' ub' q1 q2 q3 => ?_)
    simp only [s_X4_printFrom_48, s_X4_printFrom_51, tl_some, tl_none, cv_int, cv_ref, cv_null, cv_long, cat_rf, jcv_nil, jcat_cons, jv_none, jv_int, jv_ref, jv_null, jw_rf, rf_some, rf_none, bz_0, bz_1, i1_0, i0_0, if_true, if_false, ite_self, List.nil_append, List.cons_append, Nat.reduceAdd, Nat.reduceLeDiff, Nat.zero_le, Nat.le_refl, and_self, and_true, true_and, not_true_eq_false, not_false_eq_true, reduceIte, hs]
    exact ih (k + 1) (by omega) t' u' g' I' J' P' tb' ub' q1 (fun t2 u2 g2 I2 J2 P2 tb2 ub2 z1 z2 z3 => K t2 u2 g2 I2 J2 P2 tb2 ub2 z1 (q2.tr z2) (q3.tr z3))
theorem c_printFrom {i : Nat} {start : Int32} {X : Int64} (hR : Rel sv ω t g I J P A T tb ub) (hi : i < ngA A) (hb : ln A + 10 ≤ 100000)
    (K : ∀ (t' u' : Nat) (g' : jG) (I' : tI) (J' : tJ) (P' : tP) (tb' ub' : Nat), Rel sv ω t' g' I' J' P' (putAllA A (i + 1) start X.toInt32) T tb' ub' → Nx t u g I J P tb ub t' u' g' I' J' P' tb' ub' → Kp ω I I' → Q none (tv t' u' g' I' J' P')) :
    Ev sv (d + 8) (45, 0, [some (.ref (ω.1 0)), some (.int start), some (.ref (ω.2.1 i)), some (.long X), none, none], []) (tv t u g I J P) Q := by
  have hw := hR.2.2.2.2.2.2.2.1
  have h10 := (hw.2.2.2.1 (i + 1)).2
  simp only [s_X4_printFrom_0, s_X4_printFrom_1, tl_some, tl_none, cv_int, cv_ref, cv_null, cv_long, cat_rf, jcv_nil, jcat_cons, jv_none, jv_int, jv_ref, jv_null, jw_rf, rf_some, rf_none, bz_0, bz_1, i1_0, i0_0, if_true, if_false, ite_self, List.nil_append, List.cons_append, Nat.reduceAdd, Nat.reduceLeDiff, Nat.zero_le, Nat.le_refl, and_self, and_true, true_and, not_true_eq_false, not_false_eq_true, reduceIte]
  exact c_printFrom_loop hw hi (by omega) (mnA A (i + 1)) 0 (by omega) t u g I J P tb ub hR K
/-- but details there is one group of a kind and level -/
def UqA (A : Nat → Nat → Int32) : Prop := ∀ i j, 1 ≤ i → i ≤ ngA A → 1 ≤ j → j ≤ ngA A → ¬ A 66 i = 3 → A 66 i = A 66 j → A 67 i = A 67 j → i = j
theorem fndN_none {A : Nat → Nat → Int32} {kd lv : Int32} : ∀ n, (∀ j, 1 ≤ j → j ≤ n → ¬ (A 66 j = kd ∧ A 67 j = lv)) → fndN A kd lv n = 0
  | 0, _ => rfl
  | n + 1, h => by
    unfold fndN
    rw [if_neg (h (n + 1) (by omega) (by omega))]
    exact fndN_none n (fun j h1 h2 => h j h1 (by omega))
theorem fndN_one {A : Nat → Nat → Int32} {kd lv : Int32} {k : Nat} (hk : 1 ≤ k) (hm : A 66 k = kd ∧ A 67 k = lv) : ∀ n, k ≤ n → (∀ j, k < j → j ≤ n → ¬ (A 66 j = kd ∧ A 67 j = lv)) → fndN A kd lv n = k
  | 0, h, _ => by omega
  | n + 1, h, ho => by
    unfold fndN
    by_cases e : k = n + 1
    · rw [← e, if_pos hm]
    · rw [if_neg (ho (n + 1) (by omega) (by omega))]
      exact fndN_one hk hm n (by omega) (fun j h1 h2 => ho j h1 (by omega))
/-- a group as a reference -/
def gR (ω : Wd) (n : Nat) : Option Nat := if n = 0 then none else some (ω.2.1 (n - 1))
theorem c_groupOf_loop {kd lv : Int32} (hR : Rel sv ω t g I J P A T tb ub) (hu : UqA A) (hk3 : ¬ kd = 3) : ∀ n k, k + n = ngA A → (∀ j, 1 ≤ j → j ≤ k → ¬ (A 66 j = kd ∧ A 67 j = lv)) → ∀ l4 : Option Value,
    (Ev sv (d + 3) (30, 2, [some (.ref (ω.1 0)), some (.int kd), some (.int lv), some (.int (nI k)), l4], []) (tv t u g I J P) Q ↔ Q (some (va_rf (gR ω (gF A kd lv)))) (tv t u g I J P)) := by
  have hC := hR.1
  have c1 := hC.1
  have c2 := hC.2.1
  have hLg := hR.2.2.1.1
  have hLg1 := hLg.1
  have hsz : I 1 2 (ω.1 1) = nI (ngA A) := hLg.2.2.1
  have hw := hR.2.2.2.2.2.2.2.1
  have h20 := hw.1.2
  intro n
  induction n with
  | zero =>
    intro k hk hno l4
    have e : k = ngA A := by omega
    have hz : gF A kd lv = 0 := fndN_none _ (fun j h1 h2 => hno j h1 (by omega))
    have h1 : ¬ nI k < nI (ngA A) := nI_nlt (by omega) (by omega)
    rw [hz]
    refine s_X4_groupOf_2.trans ?_
    simp only [s_X4_groupOf_3, s_X4_groupOf_3n, s_X4_groupOf_3z, s_X4_groupOf_4, s_X4_groupOf_7, s_X4_groupOf_10, s_X4_groupOf_53, s_X4_groupOf_54, s_X4_groupOf_54z, s_X4_groupOf_54n, tl_some, tl_none, cv_int, cv_ref, cv_null, cv_long, cat_rf, jcv_nil, jcat_cons, jv_none, jv_int, jv_ref, jv_null, jw_rf, rf_some, rf_none, bz_0, bz_1, i1_0, i0_0, if_true, if_false, ite_self, List.nil_append, List.cons_append, Nat.reduceAdd, Nat.reduceLeDiff, Nat.zero_le, Nat.le_refl, and_self, and_true, true_and, not_true_eq_false, not_false_eq_true, reduceIte, c1, c2, hLg1, l_size hLg1, hsz, h1]
    rfl
  | succ n ih =>
    intro k hk hno l4
    have h1 : nI k < nI (ngA A) := nI_lt (by omega) (by omega)
    have hg := fun (Q : Option Value → jM → Prop) => l_get (sv := sv) (d := d) (t := t) (u := u) (Q := Q) (J := J) hLg (i := k) (by omega)
    obtain ⟨g1, g2, g3, g4, g5, g6, g7, g8, g9, g10, g11, g12⟩ := hR.2.2.1.2.1 k (by omega)
    have hs := nIs k
    by_cases m1 : A 66 (k + 1) = kd
    · by_cases m2 : A 67 (k + 1) = lv
      · have hz : gF A kd lv = k + 1 := fndN_one (by omega) ⟨m1, m2⟩ _ (by omega) (fun j q1 q2 q3 => by
          have := hu (k + 1) j (by omega) (by omega) (by omega) (by omega) (by rw [m1]; exact hk3) (by rw [m1, q3.1]) (by rw [m2, q3.2])
          omega)
        have e : gR ω (gF A kd lv) = some (ω.2.1 k) := by rw [hz]; rfl
        rw [e]
        refine s_X4_groupOf_2.trans ?_
        simp only [s_X4_groupOf_3, s_X4_groupOf_3n, s_X4_groupOf_3z, s_X4_groupOf_4, s_X4_groupOf_7, s_X4_groupOf_10, s_X4_groupOf_13, s_X4_groupOf_13n, s_X4_groupOf_13z, s_X4_groupOf_14, s_X4_groupOf_17, s_X4_groupOf_18, s_X4_groupOf_21, s_X4_groupOf_21z, s_X4_groupOf_24, s_X4_groupOf_24n, s_X4_groupOf_24z, s_X4_groupOf_26, s_X4_groupOf_26n, s_X4_groupOf_26z, s_X4_groupOf_28, s_X4_groupOf_31, s_X4_groupOf_32, s_X4_groupOf_35, s_X4_groupOf_35n, s_X4_groupOf_35z, s_X4_groupOf_37, s_X4_groupOf_40, s_X4_groupOf_41, s_X4_groupOf_44, s_X4_groupOf_44n, s_X4_groupOf_44z, s_X4_groupOf_46, s_X4_groupOf_46z, s_X4_groupOf_46n, tl_some, tl_none, cv_int, cv_ref, cv_null, cv_long, cat_rf, jcv_nil, jcat_cons, jv_none, jv_int, jv_ref, jv_null, jw_rf, rf_some, rf_none, bz_0, bz_1, i1_0, i0_0, if_true, if_false, ite_self, List.nil_append, List.cons_append, Nat.reduceAdd, Nat.reduceLeDiff, Nat.zero_le, Nat.le_refl, and_self, and_true, true_and, not_true_eq_false, not_false_eq_true, reduceIte, c1, c2, hLg1, l_size hLg1, hsz, h1, hg, g1, g6, g7, m1, m2]
      · refine Iff.trans ?_ (ih (k + 1) (by omega) (fun j q1 q2 q3 => by
          by_cases hjk : j = k + 1
          · rw [hjk] at q3; exact m2 q3.2
          · exact hno j q1 (by omega) q3) (some (.ref (ω.2.1 k))))
        refine s_X4_groupOf_2.trans ?_
        simp only [s_X4_groupOf_3, s_X4_groupOf_3n, s_X4_groupOf_3z, s_X4_groupOf_4, s_X4_groupOf_7, s_X4_groupOf_10, s_X4_groupOf_13, s_X4_groupOf_13n, s_X4_groupOf_13z, s_X4_groupOf_14, s_X4_groupOf_17, s_X4_groupOf_18, s_X4_groupOf_21, s_X4_groupOf_21z, s_X4_groupOf_24, s_X4_groupOf_24n, s_X4_groupOf_24z, s_X4_groupOf_26, s_X4_groupOf_26n, s_X4_groupOf_26z, s_X4_groupOf_28, s_X4_groupOf_31, s_X4_groupOf_32, s_X4_groupOf_35, s_X4_groupOf_35n, s_X4_groupOf_35z, s_X4_groupOf_37, s_X4_groupOf_40, s_X4_groupOf_41, s_X4_groupOf_44, s_X4_groupOf_44n, s_X4_groupOf_44z, s_X4_groupOf_46, s_X4_groupOf_46z, s_X4_groupOf_46n, s_X4_groupOf_47, s_X4_groupOf_50, tl_some, tl_none, cv_int, cv_ref, cv_null, cv_long, cat_rf, jcv_nil, jcat_cons, jv_none, jv_int, jv_ref, jv_null, jw_rf, rf_some, rf_none, bz_0, bz_1, i1_0, i0_0, if_true, if_false, ite_self, List.nil_append, List.cons_append, Nat.reduceAdd, Nat.reduceLeDiff, Nat.zero_le, Nat.le_refl, and_self, and_true, true_and, not_true_eq_false, not_false_eq_true, reduceIte, c1, c2, hLg1, l_size hLg1, hsz, h1, hg, g1, g6, g7, m1, m2, hs]
    · refine Iff.trans ?_ (ih (k + 1) (by omega) (fun j q1 q2 q3 => by
          by_cases hjk : j = k + 1
          · rw [hjk] at q3; exact m1 q3.1
          · exact hno j q1 (by omega) q3) (some (.ref (ω.2.1 k))))
      refine s_X4_groupOf_2.trans ?_
      simp only [s_X4_groupOf_3, s_X4_groupOf_3n, s_X4_groupOf_3z, s_X4_groupOf_4, s_X4_groupOf_7, s_X4_groupOf_10, s_X4_groupOf_13, s_X4_groupOf_13n, s_X4_groupOf_13z, s_X4_groupOf_14, s_X4_groupOf_17, s_X4_groupOf_18, s_X4_groupOf_21, s_X4_groupOf_21z, s_X4_groupOf_24, s_X4_groupOf_24n, s_X4_groupOf_24z, s_X4_groupOf_26, s_X4_groupOf_26n, s_X4_groupOf_26z, s_X4_groupOf_28, s_X4_groupOf_31, s_X4_groupOf_32, s_X4_groupOf_35, s_X4_groupOf_35n, s_X4_groupOf_35z, s_X4_groupOf_37, s_X4_groupOf_40, s_X4_groupOf_41, s_X4_groupOf_44, s_X4_groupOf_44n, s_X4_groupOf_44z, s_X4_groupOf_46, s_X4_groupOf_46z, s_X4_groupOf_46n, s_X4_groupOf_47, s_X4_groupOf_50, tl_some, tl_none, cv_int, cv_ref, cv_null, cv_long, cat_rf, jcv_nil, jcat_cons, jv_none, jv_int, jv_ref, jv_null, jw_rf, rf_some, rf_none, bz_0, bz_1, i1_0, i0_0, if_true, if_false, ite_self, List.nil_append, List.cons_append, Nat.reduceAdd, Nat.reduceLeDiff, Nat.zero_le, Nat.le_refl, and_self, and_true, true_and, not_true_eq_false, not_false_eq_true, reduceIte, c1, c2, hLg1, l_size hLg1, hsz, h1, hg, g1, g6, g7, m1, hs]
theorem c_groupOf {kd lv : Int32} (hR : Rel sv ω t g I J P A T tb ub) (hu : UqA A) (hk3 : ¬ kd = 3) : Ev sv (d + 3) (30, 0, [some (.ref (ω.1 0)), some (.int kd), some (.int lv), none, none], []) (tv t u g I J P) Q ↔ Q (some (va_rf (gR ω (gF A kd lv)))) (tv t u g I J P) := by
  simp only [s_X4_groupOf_0, s_X4_groupOf_1, tl_some, tl_none, cv_int, cv_ref, cv_null, cv_long, cat_rf, jcv_nil, jcat_cons, jv_none, jv_int, jv_ref, jv_null, jw_rf, rf_some, rf_none, bz_0, bz_1, i1_0, i0_0, if_true, if_false, ite_self, List.nil_append, List.cons_append, Nat.reduceAdd, Nat.reduceLeDiff, Nat.zero_le, Nat.le_refl, and_self, and_true, true_and, not_true_eq_false, not_false_eq_true, reduceIte]
  exact c_groupOf_loop hR hu hk3 (ngA A) 0 (by omega) (fun j h1 h2 => by omega) none
theorem c_groupNumbered (hR : Rel sv ω t g I J P A T tb ub) : Ev sv (d + 3) (29, 0, [some (.ref (ω.1 0)), some (.int x)], []) (tv t u g I J P) Q ↔ Q (some (va_rf (if isG A x then some (ω.2.1 (x.toNatClampNeg - 1)) else none))) (tv t u g I J P) := by
  have c1 := hR.1.1
  have c2 := hR.1.2.1
  have hLg := hR.2.2.1.1
  have hLg1 := hLg.1
  have hw := hR.2.2.2.2.2.2.2.1
  have h20 := hw.1
  have hsz : I 1 2 (ω.1 1) = A 7 5 := by rw [hLg.2.2.1, h20.1]
  by_cases hx : isG A x
  · rw [if_pos (c := isG A x) hx]
    have hr := nI_range hx.1 (by rw [← h20.1]; exact hx.2) (by omega)
    have ex := nIo (i32_neg hx.1)
    generalize hgi : x.toNatClampNeg = gi at hr ex ⊢
    have hg := fun (Q : Option Value → jM → Prop) => l_get (sv := sv) (d := d) (t := t) (u := u) (Q := Q) (J := J) hLg (i := gi - 1) (by omega)
    have g1 := (hR.2.2.1.2.1 (gi - 1) (by omega)).1
    have h1 : ¬ nI gi < 1 := nI_nlt (a := gi) (b := 1) (by omega) (by omega)
    have h2 : ¬ A 7 5 < nI gi := by rw [h20.1]; exact nI_nlt (by omega) (by omega)
    have h3 : nI gi - 1 = nI (gi - 1) := pk_sub (a := gi) (b := 1) (by omega)
    rw [ex]
    simp only [s_X4_groupNumbered_0, s_X4_groupNumbered_1, s_X4_groupNumbered_2, s_X4_groupNumbered_5, s_X4_groupNumbered_6, s_X4_groupNumbered_6n, s_X4_groupNumbered_6z, s_X4_groupNumbered_7, s_X4_groupNumbered_10, s_X4_groupNumbered_13, s_X4_groupNumbered_16, s_X4_groupNumbered_16n, s_X4_groupNumbered_16z, s_X4_groupNumbered_17, s_X4_groupNumbered_20, s_X4_groupNumbered_21, s_X4_groupNumbered_22, s_X4_groupNumbered_23, s_X4_groupNumbered_26, s_X4_groupNumbered_26z, s_X4_groupNumbered_29, s_X4_groupNumbered_32, s_X4_groupNumbered_33, s_X4_groupNumbered_33z, s_X4_groupNumbered_33n, tl_some, tl_none, cv_int, cv_ref, cv_null, cv_long, cat_rf, jcv_nil, jcat_cons, jv_none, jv_int, jv_ref, jv_null, jw_rf, rf_some, rf_none, bz_0, bz_1, i1_0, i0_0, if_true, if_false, ite_self, List.nil_append, List.cons_append, Nat.reduceAdd, Nat.reduceLeDiff, Nat.zero_le, Nat.le_refl, and_self, and_true, true_and, not_true_eq_false, not_false_eq_true, reduceIte, c1, c2, hLg1, l_size hLg1, hsz, h1, h2, h3, hg, g1]
  · rw [if_neg (c := isG A x) hx]
    by_cases h1 : x < 1
    · simp only [s_X4_groupNumbered_0, s_X4_groupNumbered_1, s_X4_groupNumbered_2, s_X4_groupNumbered_5, s_X4_groupNumbered_6, s_X4_groupNumbered_6n, s_X4_groupNumbered_6z, s_X4_groupNumbered_7, s_X4_groupNumbered_10, s_X4_groupNumbered_13, s_X4_groupNumbered_16, s_X4_groupNumbered_16n, s_X4_groupNumbered_16z, s_X4_groupNumbered_17, s_X4_groupNumbered_20, s_X4_groupNumbered_21, s_X4_groupNumbered_22, s_X4_groupNumbered_23, s_X4_groupNumbered_26, s_X4_groupNumbered_26z, s_X4_groupNumbered_29, s_X4_groupNumbered_32, s_X4_groupNumbered_33, s_X4_groupNumbered_33z, s_X4_groupNumbered_33n, tl_some, tl_none, cv_int, cv_ref, cv_null, cv_long, cat_rf, jcv_nil, jcat_cons, jv_none, jv_int, jv_ref, jv_null, jw_rf, rf_some, rf_none, bz_0, bz_1, i1_0, i0_0, if_true, if_false, ite_self, List.nil_append, List.cons_append, Nat.reduceAdd, Nat.reduceLeDiff, Nat.zero_le, Nat.le_refl, and_self, and_true, true_and, not_true_eq_false, not_false_eq_true, reduceIte, h1]
    · have h0 : 0 < x := by
        have h3 : ¬ x.toInt < 1 := fun z => h1 (i32_lt.mpr (by simpa using z))
        exact i32_lt.mpr (by have : (0 : Int32).toInt = 0 := rfl; omega)
      have h2 : A 7 5 < x := by
        by_cases h : A 7 5 < x
        · exact h
        · exact absurd ⟨h0, h⟩ hx
      simp only [s_X4_groupNumbered_0, s_X4_groupNumbered_1, s_X4_groupNumbered_2, s_X4_groupNumbered_5, s_X4_groupNumbered_6, s_X4_groupNumbered_6n, s_X4_groupNumbered_6z, s_X4_groupNumbered_7, s_X4_groupNumbered_10, s_X4_groupNumbered_13, s_X4_groupNumbered_16, s_X4_groupNumbered_16n, s_X4_groupNumbered_16z, s_X4_groupNumbered_17, s_X4_groupNumbered_20, s_X4_groupNumbered_21, s_X4_groupNumbered_22, s_X4_groupNumbered_23, s_X4_groupNumbered_26, s_X4_groupNumbered_26z, s_X4_groupNumbered_29, s_X4_groupNumbered_32, s_X4_groupNumbered_33, s_X4_groupNumbered_33z, s_X4_groupNumbered_33n, tl_some, tl_none, cv_int, cv_ref, cv_null, cv_long, cat_rf, jcv_nil, jcat_cons, jv_none, jv_int, jv_ref, jv_null, jw_rf, rf_some, rf_none, bz_0, bz_1, i1_0, i0_0, if_true, if_false, ite_self, List.nil_append, List.cons_append, Nat.reduceAdd, Nat.reduceLeDiff, Nat.zero_le, Nat.le_refl, and_self, and_true, true_and, not_true_eq_false, not_false_eq_true, reduceIte, c1, c2, hLg1, l_size hLg1, hsz, h1, h2]
abbrev isS (A : Nat → Nat → Int32) (x : Int32) : Prop := 0 < x ∧ ¬ A 7 6 < x
theorem c_sumNumbered (hR : Rel sv ω t g I J P A T tb ub) : Ev sv (d + 3) (31, 0, [some (.ref (ω.1 0)), some (.int x)], []) (tv t u g I J P) Q ↔ Q (some (va_rf (if isS A x then some (ω.2.2.2.1 (x.toNatClampNeg - 1)) else none))) (tv t u g I J P) := by
  have c1 := hR.1.1
  have c2 := hR.1.2.2.1
  have hLg := hR.2.2.2.1.1
  have hLg1 := hLg.1
  have hw := hR.2.2.2.2.2.2.2.1
  have h20 := hw.2.1
  have hsz : I 1 2 (ω.1 2) = A 7 6 := by rw [hLg.2.2.1, h20.1]
  by_cases hx : isS A x
  · rw [if_pos (c := isS A x) hx]
    have hr := nI_range hx.1 (by rw [← h20.1]; exact hx.2) (by omega)
    have ex := nIo (i32_neg hx.1)
    generalize hgi : x.toNatClampNeg = gi at hr ex ⊢
    have hg := fun (Q : Option Value → jM → Prop) => l_get (sv := sv) (d := d) (t := t) (u := u) (Q := Q) (J := J) hLg (i := gi - 1) (by omega)
    have g1 := (hR.2.2.2.1.2.1 (gi - 1) (by omega)).1
    have h1 : ¬ nI gi < 1 := nI_nlt (a := gi) (b := 1) (by omega) (by omega)
    have h2 : ¬ A 7 6 < nI gi := by rw [h20.1]; exact nI_nlt (by omega) (by omega)
    have h3 : nI gi - 1 = nI (gi - 1) := pk_sub (a := gi) (b := 1) (by omega)
    rw [ex]
    simp only [s_X4_sumNumbered_0, s_X4_sumNumbered_1, s_X4_sumNumbered_2, s_X4_sumNumbered_5, s_X4_sumNumbered_6, s_X4_sumNumbered_6n, s_X4_sumNumbered_6z, s_X4_sumNumbered_7, s_X4_sumNumbered_10, s_X4_sumNumbered_13, s_X4_sumNumbered_16, s_X4_sumNumbered_16n, s_X4_sumNumbered_16z, s_X4_sumNumbered_17, s_X4_sumNumbered_20, s_X4_sumNumbered_21, s_X4_sumNumbered_22, s_X4_sumNumbered_23, s_X4_sumNumbered_26, s_X4_sumNumbered_26z, s_X4_sumNumbered_29, s_X4_sumNumbered_32, s_X4_sumNumbered_33, s_X4_sumNumbered_33z, s_X4_sumNumbered_33n, tl_some, tl_none, cv_int, cv_ref, cv_null, cv_long, cat_rf, jcv_nil, jcat_cons, jv_none, jv_int, jv_ref, jv_null, jw_rf, rf_some, rf_none, bz_0, bz_1, i1_0, i0_0, if_true, if_false, ite_self, List.nil_append, List.cons_append, Nat.reduceAdd, Nat.reduceLeDiff, Nat.zero_le, Nat.le_refl, and_self, and_true, true_and, not_true_eq_false, not_false_eq_true, reduceIte, c1, c2, hLg1, l_size hLg1, hsz, h1, h2, h3, hg, g1]
  · rw [if_neg (c := isS A x) hx]
    by_cases h1 : x < 1
    · simp only [s_X4_sumNumbered_0, s_X4_sumNumbered_1, s_X4_sumNumbered_2, s_X4_sumNumbered_5, s_X4_sumNumbered_6, s_X4_sumNumbered_6n, s_X4_sumNumbered_6z, s_X4_sumNumbered_7, s_X4_sumNumbered_10, s_X4_sumNumbered_13, s_X4_sumNumbered_16, s_X4_sumNumbered_16n, s_X4_sumNumbered_16z, s_X4_sumNumbered_17, s_X4_sumNumbered_20, s_X4_sumNumbered_21, s_X4_sumNumbered_22, s_X4_sumNumbered_23, s_X4_sumNumbered_26, s_X4_sumNumbered_26z, s_X4_sumNumbered_29, s_X4_sumNumbered_32, s_X4_sumNumbered_33, s_X4_sumNumbered_33z, s_X4_sumNumbered_33n, tl_some, tl_none, cv_int, cv_ref, cv_null, cv_long, cat_rf, jcv_nil, jcat_cons, jv_none, jv_int, jv_ref, jv_null, jw_rf, rf_some, rf_none, bz_0, bz_1, i1_0, i0_0, if_true, if_false, ite_self, List.nil_append, List.cons_append, Nat.reduceAdd, Nat.reduceLeDiff, Nat.zero_le, Nat.le_refl, and_self, and_true, true_and, not_true_eq_false, not_false_eq_true, reduceIte, h1]
    · have h0 : 0 < x := by
        have h3 : ¬ x.toInt < 1 := fun z => h1 (i32_lt.mpr (by simpa using z))
        exact i32_lt.mpr (by have : (0 : Int32).toInt = 0 := rfl; omega)
      have h2 : A 7 6 < x := by
        by_cases h : A 7 6 < x
        · exact h
        · exact absurd ⟨h0, h⟩ hx
      simp only [s_X4_sumNumbered_0, s_X4_sumNumbered_1, s_X4_sumNumbered_2, s_X4_sumNumbered_5, s_X4_sumNumbered_6, s_X4_sumNumbered_6n, s_X4_sumNumbered_6z, s_X4_sumNumbered_7, s_X4_sumNumbered_10, s_X4_sumNumbered_13, s_X4_sumNumbered_16, s_X4_sumNumbered_16n, s_X4_sumNumbered_16z, s_X4_sumNumbered_17, s_X4_sumNumbered_20, s_X4_sumNumbered_21, s_X4_sumNumbered_22, s_X4_sumNumbered_23, s_X4_sumNumbered_26, s_X4_sumNumbered_26z, s_X4_sumNumbered_29, s_X4_sumNumbered_32, s_X4_sumNumbered_33, s_X4_sumNumbered_33z, s_X4_sumNumbered_33n, tl_some, tl_none, cv_int, cv_ref, cv_null, cv_long, cat_rf, jcv_nil, jcat_cons, jv_none, jv_int, jv_ref, jv_null, jw_rf, rf_some, rf_none, bz_0, bz_1, i1_0, i0_0, if_true, if_false, ite_self, List.nil_append, List.cons_append, Nat.reduceAdd, Nat.reduceLeDiff, Nat.zero_le, Nat.le_refl, and_self, and_true, true_and, not_true_eq_false, not_false_eq_true, reduceIte, c1, c2, hLg1, l_size hLg1, hsz, h1, h2]
end
