section
variable {sv : Nat → Value} {d t u : Nat} {Q : Option Value → jM → Prop} {g : jG} {I I' : tI} {J : tJ} {P : tP} {A B : Nat → Nat → Int32} {T T' : Nat → Int64} {ω : Wd} {tb ub st : Nat} {x y z : Int32}
theorem c_indicate (hR : Rel sv ω t g I J P A T tb ub) (hV : Inv ω I A st)
    (K2 : ¬ isD A x → Q (some (.int (-2))) (tv t u g I J P))
    (K0 : isD A x → A 72 x.toNatClampNeg = 0 → ∀ I', Rel sv ω t g I' J P (upA (cdA A) 72 x.toNatClampNeg 1) T tb ub → Nx t u g I J P tb ub t u g I' J P tb ub → Inv ω I' (upA (cdA A) 72 x.toNatClampNeg 1) st → Q (some (.int 0)) (tv t u g I' J P))
    (K1 : isD A x → ¬ A 72 x.toNatClampNeg = 0 → ∀ I', Rel sv ω t g I' J P (upA (cdA A) 72 x.toNatClampNeg 0) T tb ub → Nx t u g I J P tb ub t u g I' J P tb ub → Inv ω I' (upA (cdA A) 72 x.toNatClampNeg 0) st → Q (some (.int 1)) (tv t u g I' J P)) :
    Ev sv (d + 4) (25, 0, [some (.ref (ω.1 0)), some (.int x), none, none], []) (tv t u g I J P) Q := by
  have c1 := hR.1.1
  have hw := hR.2.2.2.2.2.2.2.1
  have h20 := hw.1
  have hgn := fun (Q : Option Value → jM → Prop) => c_groupNumbered (Q := Q) (sv := sv) (d := d) (u := u) (x := x) hR
  by_cases hx : isG A x
  · have hr := nI_range hx.1 (by rw [← h20.1]; exact hx.2) (by omega)
    obtain ⟨i, hi⟩ : ∃ i, x.toNatClampNeg = i + 1 := ⟨x.toNatClampNeg - 1, by omega⟩
    have hgi : i < ngA A := by omega
    have ei : x.toNatClampNeg - 1 = i := by omega
    have hD : isD A x ↔ A 66 (i + 1) = 3 := by
      unfold isD
      rw [hi]
      exact ⟨fun q => q.2, fun q => ⟨hx, q⟩⟩
    rw [hi] at K0 K1
    obtain ⟨g1, g2, g3, g4, g5, g6, g7, g8, g9, g10, g11, g12⟩ := hR.2.2.1.2.1 i hgi
    by_cases h3 : A 66 (i + 1) = 3
    · have hIc := hV.cd
      have oA : ∀ v κ j, κ ≠ 72 → upA (cdA A) 72 (i + 1) v κ j = cdA A κ j := fun v κ j h => if_neg (fun q => h q.1)
      have hI1 : ∀ v : Int32, Inv ω (ups I 2 8 (ω.2.1 i) v) (upA (cdA A) 72 (i + 1) v) st := by
        intro v
        have hp := hIc.1
        refine hIc.on ⟨hp.1, hp.2.1, fun gi a1 a2 a3 => ?_, hp.2.2.2⟩ hIc.2.1 (hIc.2.2.1.cg (fun κ j h => oA v κ j (by omega))) rfl ⟨rfl, rfl⟩ (fun b => by rw [ups_ap, if_neg (fun q => absurd q.2.1 (by decide))]) (fun j => ⟨rfl, rfl⟩) (fun j h => rfl)
        rw [upA_ap, if_neg (fun q => by
          rw [q.2] at a3
          exact a3 h3)]
        exact hp.2.2.1 gi a1 a2 a3
      have hRel : ∀ v : Int32, Rel sv ω t g (ups I 2 8 (ω.2.1 i) v) J P (upA (cdA A) 72 (i + 1) v) T tb ub := by
        intro v
        obtain ⟨hC, hV1, hG, hS, hP, hD, htg, hw, hl, hs⟩ := hR.cd
        have o : ∀ κ, κ ≠ 2 → ups I 2 8 (ω.2.1 i) v κ = I κ := fun κ h => ups_o h
        refine ⟨hC, hV1.congr (fun j => rfl) (fun j => rfl) (o 60 (by decide)) (o 61 (by decide)) rfl (gle_rf g), ?_, hS.congr (fun κ j h => oA v κ j (by omega)) rfl (fun n f h => h.congr rfl rfl (fun _ _ => rfl) (gle_rf g)) (o 5 (by decide)) rfl (gle_rf g), hP.congr (fun j => rfl) rfl (o 1 (by decide)) (o 3 (by decide)) (o 63 (by decide)), hD, htg, (fs_up (fs_rf (cdA A)) rfl : fs (cdA A) (upA (cdA A) 72 (i + 1) v)).wf hw, hl, hs⟩
        obtain ⟨h1, h2, h3, h4⟩ := hG
        refine ⟨h1.congr rfl rfl (fun _ _ => rfl) (gle_rf g), fun j hj => ?_, h3, h4⟩
        have hj' : j < ngA A := hj
        have a2 : ∀ k, k ≠ 8 → ups I 2 8 (ω.2.1 i) v 2 k (ω.2.1 j) = I 2 k (ω.2.1 j) := fun k hk => by rw [ups_ap, if_neg (fun q => hk q.2.1)]
        obtain ⟨k1, k2, k3, k4, k5, k6, k7, k8, k9, k10, k11, k12⟩ := h2 j hj'
        refine ⟨k1, k2, k3, k4, by rw [a2 0 (by decide)]; exact k5, by rw [a2 1 (by decide)]; exact k6, by rw [a2 2 (by decide)]; exact k7, by rw [a2 5 (by decide)]; exact k8, by rw [a2 7 (by decide)]; exact k9, ?_, ?_, ?_⟩
        · rw [ups_ap, upA_ap]
          by_cases h : j = i
          · rw [if_pos ⟨rfl, rfl, by rw [h]⟩, if_pos ⟨rfl, by omega⟩]
          · rw [if_neg (fun q => h (hR.2.2.1.2.2.1 j i hj' hgi q.2.2)), if_neg (fun q => by omega)]
            exact k10
        · rw [a2 3 (by decide), a2 4 (by decide)]
          exact k11
        · intro q hq
          rw [lat_congr (A := cdA A) (B := upA (cdA A) 72 (i + 1) v) (fun j => oA v 69 j (by decide))]
          exact k12 q hq
      have hN : ∀ v, Nx t u g I J P tb ub t u g (ups I 2 8 (ω.2.1 i) v) J P tb ub := fun v => Nx_I (fun κ hκ => ups_o (by omega))
      by_cases h72 : A 72 (i + 1) = 0
      · simp only [s_X4_indicate_0, s_X4_indicate_0n, s_X4_indicate_0z, s_X4_indicate_1, s_X4_indicate_2, s_X4_indicate_5, s_X4_indicate_5n, s_X4_indicate_5z, s_X4_indicate_6, s_X4_indicate_6n, s_X4_indicate_6z, s_X4_indicate_7n, s_X4_indicate_7, s_X4_indicate_7z, s_X4_indicate_10, s_X4_indicate_10n, s_X4_indicate_10z, s_X4_indicate_11, s_X4_indicate_14, s_X4_indicate_15, s_X4_indicate_18, s_X4_indicate_20, s_X4_indicate_21, s_X4_indicate_21n, s_X4_indicate_21z, s_X4_indicate_22, s_X4_indicate_25, s_X4_indicate_26, s_X4_indicate_26n, s_X4_indicate_26z, s_X4_indicate_27, s_X4_indicate_28, s_X4_indicate_31, s_X4_indicate_32, s_X4_indicate_35, s_X4_indicate_36, s_X4_indicate_39, s_X4_indicate_40, s_X4_indicate_43, s_X4_indicate_44, s_X4_indicate_47, s_X4_indicate_48, tl_some, tl_none, cv_int, cv_ref, cv_null, cv_long, cat_rf, jcv_nil, jcat_cons, jv_none, jv_int, jv_ref, jv_null, jw_rf, rf_some, rf_none, bz_0, bz_1, i1_0, i0_0, if_true, if_false, ite_self, List.nil_append, List.cons_append, Nat.reduceAdd, Nat.reduceLeDiff, Nat.zero_le, Nat.le_refl, and_self, and_true, true_and, not_true_eq_false, not_false_eq_true, reduceIte, c1, hgn, if_pos (c := isG A x) hx, ei, g1, g6, h3, g10, h72]
        exact K0 (hD.mpr h3) h72 _ (hRel 1) (hN 1) (hI1 1)
      · simp only [s_X4_indicate_0, s_X4_indicate_0n, s_X4_indicate_0z, s_X4_indicate_1, s_X4_indicate_2, s_X4_indicate_5, s_X4_indicate_5n, s_X4_indicate_5z, s_X4_indicate_6, s_X4_indicate_6n, s_X4_indicate_6z, s_X4_indicate_7n, s_X4_indicate_7, s_X4_indicate_7z, s_X4_indicate_10, s_X4_indicate_10n, s_X4_indicate_10z, s_X4_indicate_11, s_X4_indicate_14, s_X4_indicate_15, s_X4_indicate_18, s_X4_indicate_20, s_X4_indicate_21, s_X4_indicate_21n, s_X4_indicate_21z, s_X4_indicate_22, s_X4_indicate_25, s_X4_indicate_26, s_X4_indicate_26n, s_X4_indicate_26z, s_X4_indicate_27, s_X4_indicate_28, s_X4_indicate_31, s_X4_indicate_32, s_X4_indicate_35, s_X4_indicate_36, s_X4_indicate_39, s_X4_indicate_40, s_X4_indicate_43, s_X4_indicate_44, s_X4_indicate_47, s_X4_indicate_48, tl_some, tl_none, cv_int, cv_ref, cv_null, cv_long, cat_rf, jcv_nil, jcat_cons, jv_none, jv_int, jv_ref, jv_null, jw_rf, rf_some, rf_none, bz_0, bz_1, i1_0, i0_0, if_true, if_false, ite_self, List.nil_append, List.cons_append, Nat.reduceAdd, Nat.reduceLeDiff, Nat.zero_le, Nat.le_refl, and_self, and_true, true_and, not_true_eq_false, not_false_eq_true, reduceIte, c1, hgn, if_pos (c := isG A x) hx, ei, g1, g6, h3, g10, h72]
        exact K1 (hD.mpr h3) h72 _ (hRel 0) (hN 0) (hI1 0)
    · simp only [s_X4_indicate_0, s_X4_indicate_0n, s_X4_indicate_0z, s_X4_indicate_1, s_X4_indicate_2, s_X4_indicate_5, s_X4_indicate_5n, s_X4_indicate_5z, s_X4_indicate_6, s_X4_indicate_6n, s_X4_indicate_6z, s_X4_indicate_7n, s_X4_indicate_7, s_X4_indicate_7z, s_X4_indicate_10, s_X4_indicate_10n, s_X4_indicate_10z, s_X4_indicate_11, s_X4_indicate_14, s_X4_indicate_15, s_X4_indicate_18, s_X4_indicate_20, s_X4_indicate_21, s_X4_indicate_21n, s_X4_indicate_21z, s_X4_indicate_22, s_X4_indicate_25, s_X4_indicate_26, s_X4_indicate_26n, s_X4_indicate_26z, s_X4_indicate_27, s_X4_indicate_28, s_X4_indicate_31, s_X4_indicate_32, s_X4_indicate_35, s_X4_indicate_36, s_X4_indicate_39, s_X4_indicate_40, s_X4_indicate_43, s_X4_indicate_44, s_X4_indicate_47, s_X4_indicate_48, tl_some, tl_none, cv_int, cv_ref, cv_null, cv_long, cat_rf, jcv_nil, jcat_cons, jv_none, jv_int, jv_ref, jv_null, jw_rf, rf_some, rf_none, bz_0, bz_1, i1_0, i0_0, if_true, if_false, ite_self, List.nil_append, List.cons_append, Nat.reduceAdd, Nat.reduceLeDiff, Nat.zero_le, Nat.le_refl, and_self, and_true, true_and, not_true_eq_false, not_false_eq_true, reduceIte, c1, hgn, if_pos (c := isG A x) hx, ei, g1, g6, h3]
      exact K2 (fun q => h3 (hD.mp q))
  · simp only [s_X4_indicate_0, s_X4_indicate_0n, s_X4_indicate_0z, s_X4_indicate_1, s_X4_indicate_2, s_X4_indicate_5, s_X4_indicate_5n, s_X4_indicate_5z, s_X4_indicate_6, s_X4_indicate_6n, s_X4_indicate_6z, s_X4_indicate_7n, s_X4_indicate_7, s_X4_indicate_7z, s_X4_indicate_10, s_X4_indicate_10n, s_X4_indicate_10z, s_X4_indicate_11, s_X4_indicate_14, s_X4_indicate_15, s_X4_indicate_18, s_X4_indicate_20, s_X4_indicate_21, s_X4_indicate_21n, s_X4_indicate_21z, s_X4_indicate_22, s_X4_indicate_25, s_X4_indicate_26, s_X4_indicate_26n, s_X4_indicate_26z, s_X4_indicate_27, s_X4_indicate_28, s_X4_indicate_31, s_X4_indicate_32, s_X4_indicate_35, s_X4_indicate_36, s_X4_indicate_39, s_X4_indicate_40, s_X4_indicate_43, s_X4_indicate_44, s_X4_indicate_47, s_X4_indicate_48, tl_some, tl_none, cv_int, cv_ref, cv_null, cv_long, cat_rf, jcv_nil, jcat_cons, jv_none, jv_int, jv_ref, jv_null, jw_rf, rf_some, rf_none, bz_0, bz_1, i1_0, i0_0, if_true, if_false, ite_self, List.nil_append, List.cons_append, Nat.reduceAdd, Nat.reduceLeDiff, Nat.zero_le, Nat.le_refl, and_self, and_true, true_and, not_true_eq_false, not_false_eq_true, reduceIte, c1, hgn, if_neg (c := isG A x) hx]
    exact K2 (fun q => hx q.1)
/-- a value is written -/
theorem Rel.val (hR : Rel sv ω t g I J P A T tb ub) {k : Nat} (hk : k < 6) {y : Int32} : Rel sv ω t g (ups I 60 k (ω.1 3) y) J P (upA A 64 k y) T tb ub := by
  obtain ⟨hC, ⟨v1, v2, v3, v4, v5, v6, v7, v8⟩, hG, hS, hP, hD, htg, hw, hl, hs⟩ := hR
  have o : ∀ κ, κ ≠ 60 → ups I 60 k (ω.1 3) y κ = I κ := fun κ h => ups_o h
  have oA : ∀ κ j, κ ≠ 64 → upA A 64 k y κ j = A κ j := fun κ j h => if_neg (fun q => h q.1)
  refine ⟨hC, ⟨v1, v2, v3, v4, v5, v6, fun j hj => ?_, fun j hj => v8 j hj⟩, hG.congr (fun κ j h1 h2 => oA κ j (by omega)) rfl (fun n f h => h.congr rfl rfl (fun _ _ => rfl) (gle_rf g)) (fun k b hk => rfl) (o 62 (by decide)) rfl (gle_rf g), hS.congr (fun κ j h => oA κ j (by omega)) rfl (fun n f h => h.congr rfl rfl (fun _ _ => rfl) (gle_rf g)) (o 5 (by decide)) rfl (gle_rf g), hP.congr (fun j => rfl) rfl (o 1 (by decide)) (o 3 (by decide)) (o 63 (by decide)), hD, htg, (fs_up (fs_rf A) rfl : fs A (upA A 64 k y)).wf hw, hl, hs⟩
  rw [ups_ap, upA_ap]
  by_cases h : j = k
  · rw [if_pos ⟨rfl, h, rfl⟩, if_pos ⟨rfl, h⟩]
  · rw [if_neg (fun q => h q.2.1), if_neg (fun q => h q.2)]
    exact v7 j hj
theorem c_set (hR : Rel sv ω t g I J P A T tb ub) (hV : Inv ω I A st)
    (K4 : x < 1 ∨ A 7 4 < x → Q (some (.int (-4))) (tv t u g I J P))
    (K : ¬ (x < 1 ∨ A 7 4 < x) → ∀ I', Rel sv ω t g I' J P (upA (cdA A) 64 x.toNatClampNeg y) T tb ub → Nx t u g I J P tb ub t u g I' J P tb ub → Inv ω I' (upA (cdA A) 64 x.toNatClampNeg y) st → Q (some (.int (A 64 x.toNatClampNeg))) (tv t u g I' J P)) :
    Ev sv d (16, 0, [some (.ref (ω.1 0)), some (.int x), some (.int y), none], []) (tv t u g I J P) Q := by
  obtain ⟨c1, c2, c3, c4, c5, c6, c7, c8, c9, c10, c11, c12, c13⟩ := hR.1
  obtain ⟨v1, v2, v3, v4, v5, v6, v7, v8⟩ := hR.2.1
  have hw := hR.2.2.2.2.2.2.2.1
  have h5 := hw.2.2.1
  by_cases h1 : x < 1
  · simp only [s_X4_set_0, s_X4_set_1, s_X4_set_2, s_X4_set_5, s_X4_set_6, s_X4_set_6n, s_X4_set_6z, s_X4_set_7, s_X4_set_10, s_X4_set_13, s_X4_set_15, s_X4_set_16, s_X4_set_16n, s_X4_set_16z, s_X4_set_17, s_X4_set_20, s_X4_set_21, s_X4_set_22, s_X4_set_23, s_X4_set_23n, s_X4_set_23z, s_X4_set_24, s_X4_set_27, s_X4_set_28, s_X4_set_29, s_X4_set_30, s_X4_set_31, tl_some, tl_none, cv_int, cv_ref, cv_null, cv_long, cat_rf, jcv_nil, jcat_cons, jv_none, jv_int, jv_ref, jv_null, jw_rf, rf_some, rf_none, bz_0, bz_1, i1_0, i0_0, if_true, if_false, ite_self, List.nil_append, List.cons_append, Nat.reduceAdd, Nat.reduceLeDiff, Nat.zero_le, Nat.le_refl, and_self, and_true, true_and, not_true_eq_false, not_false_eq_true, reduceIte, h1]
    exact K4 (Or.inl h1)
  · by_cases h2 : A 7 4 < x
    · simp only [s_X4_set_0, s_X4_set_1, s_X4_set_2, s_X4_set_5, s_X4_set_6, s_X4_set_6n, s_X4_set_6z, s_X4_set_7, s_X4_set_10, s_X4_set_13, s_X4_set_15, s_X4_set_16, s_X4_set_16n, s_X4_set_16z, s_X4_set_17, s_X4_set_20, s_X4_set_21, s_X4_set_22, s_X4_set_23, s_X4_set_23n, s_X4_set_23z, s_X4_set_24, s_X4_set_27, s_X4_set_28, s_X4_set_29, s_X4_set_30, s_X4_set_31, tl_some, tl_none, cv_int, cv_ref, cv_null, cv_long, cat_rf, jcv_nil, jcat_cons, jv_none, jv_int, jv_ref, jv_null, jw_rf, rf_some, rf_none, bz_0, bz_1, i1_0, i0_0, if_true, if_false, ite_self, List.nil_append, List.cons_append, Nat.reduceAdd, Nat.reduceLeDiff, Nat.zero_le, Nat.le_refl, and_self, and_true, true_and, not_true_eq_false, not_false_eq_true, reduceIte, h1, c1, c8, h2]
      exact K4 (Or.inr h2)
    · have h0 : 0 < x := by
        have h3 : ¬ x.toInt < 1 := fun z => h1 (i32_lt.mpr (by simpa using z))
        exact i32_lt.mpr (by have : (0 : Int32).toInt = 0 := rfl; omega)
      have hr := nI_range h0 (by rw [← h5.1]; exact h2) (by omega)
      have hj := jin_range (k := 6) h0 (by rw [← h5.1]; exact h2) (by omega) (by omega)
      have a1 := v7 x.toNatClampNeg (by omega)
      simp only [s_X4_set_0, s_X4_set_1, s_X4_set_2, s_X4_set_5, s_X4_set_6, s_X4_set_6n, s_X4_set_6z, s_X4_set_7, s_X4_set_10, s_X4_set_13, s_X4_set_15, s_X4_set_16, s_X4_set_16n, s_X4_set_16z, s_X4_set_17, s_X4_set_20, s_X4_set_21, s_X4_set_22, s_X4_set_23, s_X4_set_23n, s_X4_set_23z, s_X4_set_24, s_X4_set_27, s_X4_set_28, s_X4_set_29, s_X4_set_30, s_X4_set_31, tl_some, tl_none, cv_int, cv_ref, cv_null, cv_long, cat_rf, jcv_nil, jcat_cons, jv_none, jv_int, jv_ref, jv_null, jw_rf, rf_some, rf_none, bz_0, bz_1, i1_0, i0_0, if_true, if_false, ite_self, List.nil_append, List.cons_append, Nat.reduceAdd, Nat.reduceLeDiff, Nat.zero_le, Nat.le_refl, and_self, and_true, true_and, not_true_eq_false, not_false_eq_true, reduceIte, h1, c1, c8, h2, v1, v3, v4, hj, a1]
      have hIc := hV.cd
      have oA : ∀ κ j, κ ≠ 64 → upA (cdA A) 64 x.toNatClampNeg y κ j = cdA A κ j := fun κ j h => if_neg (fun q => h q.1)
      refine K (fun q => q.elim h1 h2) _ (hR.cd.val (by omega)) (Nx_I (fun κ hκ => ups_o (by omega))) (hIc.on (hIc.1.cg (fun κ j h => oA κ j (by omega))) (fun j hj => ?_) (hIc.2.2.1.cg (fun κ j h => oA κ j (by omega))) rfl ⟨rfl, rfl⟩ (fun _ => rfl) (fun j => ⟨rfl, rfl⟩) (fun j h => rfl))
      have hj2 : j = 0 ∨ ncA A < j := hj
      refine ⟨?_, (hIc.2.1 j hj).2⟩
      rw [upA_ap, if_neg (fun q => by omega)]
      exact (hIc.2.1 j hj).1
theorem c_control (hR : Rel sv ω t g I J P A T tb ub) (hV : Inv ω I A st)
    (K5 : ¬ A 7 21 = 0 → Q (some (.int (-5))) (tv t u g I J P))
    (K1 : A 7 21 = 0 → A 7 4 = 5 → Q (some (.int (-1))) (tv t u g I J P))
    (K : A 7 21 = 0 → ¬ A 7 4 = 5 → ∀ I', Rel sv ω t g I' J P (ctlA A x) T tb ub → Nx t u g I J P tb ub t u g I' J P tb ub → Inv ω I' (ctlA A x) st → Q (some (.int (nI (ncA A + 1)))) (tv t u g I' J P)) :
    Ev sv d (15, 0, [some (.ref (ω.1 0)), some (.int x)], []) (tv t u g I J P) Q := by
  obtain ⟨c1, c2, c3, c4, c5, c6, c7, c8, c9, c10, c11, c12, c13⟩ := hR.1
  obtain ⟨v1, v2, v3, v4, v5, v6, v7, v8⟩ := hR.2.1
  have hw := hR.2.2.2.2.2.2.2.1
  have h5 := hw.2.2.1
  by_cases h21 : A 7 21 = 0
  · by_cases h4 : A 7 4 = 5
    · have hlt : ¬ (5 : Int32) < 5 := by decide
      simp only [s_X4_control_0, s_X4_control_0n, s_X4_control_0z, s_X4_control_1, s_X4_control_4, s_X4_control_7, s_X4_control_9, s_X4_control_10, s_X4_control_10n, s_X4_control_10z, s_X4_control_11, s_X4_control_14, s_X4_control_15, s_X4_control_18, s_X4_control_19, s_X4_control_20, s_X4_control_20n, s_X4_control_20z, s_X4_control_21, s_X4_control_22, s_X4_control_25, s_X4_control_26, s_X4_control_27, s_X4_control_30, s_X4_control_30n, s_X4_control_30z, s_X4_control_31, s_X4_control_34, s_X4_control_34n, s_X4_control_34z, s_X4_control_35, s_X4_control_38, s_X4_control_39, s_X4_control_40, s_X4_control_40n, s_X4_control_40z, s_X4_control_41, s_X4_control_44, tl_some, tl_none, cv_int, cv_ref, cv_null, cv_long, cat_rf, jcv_nil, jcat_cons, jv_none, jv_int, jv_ref, jv_null, jw_rf, rf_some, rf_none, bz_0, bz_1, i1_0, i0_0, if_true, if_false, ite_self, List.nil_append, List.cons_append, Nat.reduceAdd, Nat.reduceLeDiff, Nat.zero_le, Nat.le_refl, and_self, and_true, true_and, not_true_eq_false, not_false_eq_true, reduceIte, c1, c9, h21, c8, h4, hlt]
      exact K1 h21 h4
    · have hn : ncA A < 5 := by
        by_cases e : ncA A = 5
        · rw [h5.1, e] at h4; exact absurd rfl h4
        · omega
      have hlt : nI (ncA A) < 5 := nI_lt (b := 5) hn (by omega)
      have c8' : I 6 5 (ω.1 0) = nI (ncA A) := c8.trans h5.1
      have hs := nIs (ncA A)
      have hj : jin (nI (ncA A + 1)) 6 = true := jin_nI (by omega) (by omega)
      have hc : (nI (ncA A + 1)).toNatClampNeg = ncA A + 1 := nI_clamp (by omega)
      have r1 : ∀ v, ups I 6 5 (ω.1 0) v 6 5 (ω.1 0) = v := fun v => by rw [ups_ap, if_pos ⟨rfl, rfl, rfl⟩]
      have r2 : ∀ v w, ups (ups I 6 5 (ω.1 0) v) 60 (ncA A + 1) (ω.1 3) w 6 5 (ω.1 0) = v := fun v w => r1 v
      simp only [s_X4_control_0, s_X4_control_0n, s_X4_control_0z, s_X4_control_1, s_X4_control_4, s_X4_control_7, s_X4_control_9, s_X4_control_10, s_X4_control_10n, s_X4_control_10z, s_X4_control_11, s_X4_control_14, s_X4_control_15, s_X4_control_18, s_X4_control_19, s_X4_control_20, s_X4_control_20n, s_X4_control_20z, s_X4_control_21, s_X4_control_22, s_X4_control_25, s_X4_control_26, s_X4_control_27, s_X4_control_30, s_X4_control_30n, s_X4_control_30z, s_X4_control_31, s_X4_control_34, s_X4_control_34n, s_X4_control_34z, s_X4_control_35, s_X4_control_38, s_X4_control_39, s_X4_control_40, s_X4_control_40n, s_X4_control_40z, s_X4_control_41, s_X4_control_44, tl_some, tl_none, cv_int, cv_ref, cv_null, cv_long, cat_rf, jcv_nil, jcat_cons, jv_none, jv_int, jv_ref, jv_null, jw_rf, rf_some, rf_none, bz_0, bz_1, i1_0, i0_0, if_true, if_false, ite_self, List.nil_append, List.cons_append, Nat.reduceAdd, Nat.reduceLeDiff, Nat.zero_le, Nat.le_refl, and_self, and_true, true_and, not_true_eq_false, not_false_eq_true, reduceIte, c1, c9, h21, c8', hlt, hs, v1, v3, v4, r1, r2, hj, hc]
      have hIc := hV.cd
      have hRc := hR.cd
      have hR1 : Rel sv ω t g (ups I 6 5 (ω.1 0) (nI (ncA A + 1))) J P (upA (cdA A) 7 4 (nI (ncA A + 1))) T tb ub := by
        obtain ⟨hC, hV1, hG, hS, hP, hD, htg, hw, hl, hs⟩ := hRc
        have o : ∀ κ, κ ≠ 6 → ups I 6 5 (ω.1 0) (nI (ncA A + 1)) κ = I κ := fun κ h => ups_o h
        have oA : ∀ κ j, κ ≠ 7 → upA (cdA A) 7 4 (nI (ncA A + 1)) κ j = cdA A κ j := fun κ j h => if_neg (fun q => h q.1)
        have enc : ncA (upA (cdA A) 7 4 (nI (ncA A + 1))) = ncA A + 1 := hc
        refine ⟨⟨c1, c2, c3, c4, c5, c6, c7, ?_, c9, c10, c11, c12, c13⟩, hV1.congr (fun j => rfl) (fun j => rfl) (o 60 (by decide)) (o 61 (by decide)) rfl (gle_rf g), hG.congr (fun κ j h1 h2 => oA κ j (by omega)) rfl (fun n f h => h.congr rfl rfl (fun _ _ => rfl) (gle_rf g)) (fun k b hk => rfl) (o 62 (by decide)) rfl (gle_rf g), hS.congr (fun κ j h => oA κ j (by omega)) rfl (fun n f h => h.congr rfl rfl (fun _ _ => rfl) (gle_rf g)) (o 5 (by decide)) rfl (gle_rf g), hP.congr (fun j => rfl) rfl (o 1 (by decide)) (o 3 (by decide)) (o 63 (by decide)), hD, htg, ⟨hw.1, hw.2.1, ⟨?_, by rw [enc]; omega⟩, hw.2.2.2⟩, hl, hs⟩
        · rw [ups_ap, if_pos ⟨rfl, rfl, rfl⟩]
          rfl
        · rw [enc]
          rfl
      have oA : ∀ κ j, κ ≠ 7 → κ ≠ 64 → ctlA A x κ j = cdA A κ j := fun κ j h1 h2 => by
        show upA (upA (cdA A) 7 4 (nI (ncA A + 1))) 64 (ncA A + 1) x κ j = _
        rw [upA_ap, if_neg (fun q => h2 q.1), upA_ap, if_neg (fun q => h1 q.1)]
      have o7 : ∀ j, j ≠ 4 → ctlA A x 7 j = cdA A 7 j := fun j h => by
        show upA (upA (cdA A) 7 4 (nI (ncA A + 1))) 64 (ncA A + 1) x 7 j = _
        rw [upA_ap, if_neg (fun q => absurd q.1 (by decide)), upA_ap, if_neg (fun q => h q.2)]
      refine K h21 h4 _ (hR1.val (by omega)) (Nx_I (fun κ hκ => by rw [ups_o (by omega), ups_o (by omega)])) (hIc.off h21 (hIc.1.cg (fun κ j h => ?_)) (fun j hj => ?_) (hIc.2.2.1.cg (fun κ j h => ?_)) (hIc.2.2.2.1.kp rfl (fun _ => rfl) rfl) (fun j h => o7 j (by omega)))
      · rcases h with h | h | h | h | h | h
        · exact oA κ j (by omega) (by omega)
        · exact oA κ j (by omega) (by omega)
        · exact oA κ j (by omega) (by omega)
        · exact oA κ j (by omega) (by omega)
        · exact oA κ j (by omega) (by omega)
        · rw [h.1]; exact o7 j (by omega)
      · have enc : ncA (ctlA A x) = ncA A + 1 := hc
        rw [enc] at hj
        have hj2 : j = 0 ∨ ncA (cdA A) < j := by
          show j = 0 ∨ ncA A < j
          omega
        refine ⟨?_, (hIc.2.1 j hj2).2⟩
        show upA (upA (cdA A) 7 4 (nI (ncA A + 1))) 64 (ncA A + 1) x 64 j = 0
        rw [upA_ap, if_neg (fun q => by omega)]
        exact (hIc.2.1 j hj2).1
      · rcases h with h | h | h | h | h | h | h | h
        · exact oA κ j (by omega) (by omega)
        · exact oA κ j (by omega) (by omega)
        · exact oA κ j (by omega) (by omega)
        · exact oA κ j (by omega) (by omega)
        · exact oA κ j (by omega) (by omega)
        · exact oA κ j (by omega) (by omega)
        · exact oA κ j (by omega) (by omega)
        · rw [h.1]; exact o7 j (by omega)
  · simp only [s_X4_control_0, s_X4_control_0n, s_X4_control_0z, s_X4_control_1, s_X4_control_4, s_X4_control_7, s_X4_control_9, s_X4_control_10, s_X4_control_10n, s_X4_control_10z, s_X4_control_11, s_X4_control_14, s_X4_control_15, s_X4_control_18, s_X4_control_19, s_X4_control_20, s_X4_control_20n, s_X4_control_20z, s_X4_control_21, s_X4_control_22, s_X4_control_25, s_X4_control_26, s_X4_control_27, s_X4_control_30, s_X4_control_30n, s_X4_control_30z, s_X4_control_31, s_X4_control_34, s_X4_control_34n, s_X4_control_34z, s_X4_control_35, s_X4_control_38, s_X4_control_39, s_X4_control_40, s_X4_control_40n, s_X4_control_40z, s_X4_control_41, s_X4_control_44, tl_some, tl_none, cv_int, cv_ref, cv_null, cv_long, cat_rf, jcv_nil, jcat_cons, jv_none, jv_int, jv_ref, jv_null, jw_rf, rf_some, rf_none, bz_0, bz_1, i1_0, i0_0, if_true, if_false, ite_self, List.nil_append, List.cons_append, Nat.reduceAdd, Nat.reduceLeDiff, Nat.zero_le, Nat.le_refl, and_self, and_true, true_and, not_true_eq_false, not_false_eq_true, reduceIte, c1, c9, h21]
    exact K5 h21
theorem c_generate (hR : Rel sv ω t g I J P A T tb ub) (hV : Inv ω I A st) (hst : st + 30 < 999999) {X : Int64}
    (K2 : ¬ x = 0 ∧ ¬ isD A x → Q (some (.int (-2))) (tv t u g I J P))
    (K5 : ¬ (¬ x = 0 ∧ ¬ isD A x) → A 7 21 = 0 → Q (some (.int (-5))) (tv t u g I J P))
    (K1 : ¬ (¬ x = 0 ∧ ¬ isD A x) → ¬ A 7 21 = 0 → A 7 22 = 200 → Q (some (.int (-1))) (tv t u g I J P))
    (K : ¬ (¬ x = 0 ∧ ¬ isD A x) → ¬ A 7 21 = 0 → ¬ A 7 22 = 200 → ∀ (t' u' : Nat) (g' : jG) (I' : tI) (J' : tJ) (P' : tP) (tb' ub' st' : Nat), Rel sv ω t' g' I' J' P' (genA (cdA A) T x.toNatClampNeg X) (genT (cdA A) T x.toNatClampNeg X) tb' ub' → Nx t u g I J P tb ub t' u' g' I' J' P' tb' ub' → Inv ω I' (genA (cdA A) T x.toNatClampNeg X) st' → st' ≤ st + 20 → Q (some (.int (genA (cdA A) T x.toNatClampNeg X 7 28 - A 7 28))) (tv t' u' g' I' J' P')) :
    Ev sv (d + 13) (18, 0, [some (.ref (ω.1 0)), some (.int x), some (.long X), none, none, none, none], []) (tv t u g I J P) Q := by
  have c1 := hR.1.1
  have c9 := hR.1.2.2.2.2.2.2.2.2.1
  have c12 := hR.1.2.2.2.2.2.2.2.2.2.2.2.1
  have hw := hR.2.2.2.2.2.2.2.1
  have h20 := hw.1
  have hgn := fun (Q : Option Value → jM → Prop) => c_groupNumbered (Q := Q) (sv := sv) (d := d + 9) (u := u) (x := x) hR
  obtain ⟨n, hn1, hn2, -, -⟩ := hV.2.2.2.2.1
  have hn1 : A 7 22 = nI n := hn1
  -- from the second question on
  have E : ∀ det : Nat, x.toNatClampNeg = det → x = nI det → det ≤ ngA A → (¬ det = 0 → A 66 det = 3) → ¬ (¬ x = 0 ∧ ¬ isD A x) → Ev sv (d + 13) (18, 28, [some (.ref (ω.1 0)), some (.int (nI det)), some (.long X), none, some (va_rf (gR ω det)), none, none], []) (tv t u g I J P) Q := by
    intro det e1 e2 e3 e4 hno
    rw [e1] at K
    by_cases h21 : A 7 21 = 0
    · simp only [s_X4_generate_28, s_X4_generate_28n, s_X4_generate_28z, s_X4_generate_29, s_X4_generate_32, s_X4_generate_35, s_X4_generate_37, tl_some, tl_none, cv_int, cv_ref, cv_null, cv_long, cat_rf, jcv_nil, jcat_cons, jv_none, jv_int, jv_ref, jv_null, jw_rf, rf_some, rf_none, bz_0, bz_1, i1_0, i0_0, if_true, if_false, ite_self, List.nil_append, List.cons_append, Nat.reduceAdd, Nat.reduceLeDiff, Nat.zero_le, Nat.le_refl, and_self, and_true, true_and, not_true_eq_false, not_false_eq_true, reduceIte, c1, c9, h21]
      exact K5 hno h21
    · by_cases h22 : A 7 22 = 200
      · have hlt : ¬ (200 : Int32) < 200 := by decide
        simp only [s_X4_generate_28, s_X4_generate_28n, s_X4_generate_28z, s_X4_generate_29, s_X4_generate_32, s_X4_generate_35, s_X4_generate_37, s_X4_generate_38, s_X4_generate_38n, s_X4_generate_38z, s_X4_generate_39, s_X4_generate_42, s_X4_generate_45, s_X4_generate_48, s_X4_generate_49, tl_some, tl_none, cv_int, cv_ref, cv_null, cv_long, cat_rf, jcv_nil, jcat_cons, jv_none, jv_int, jv_ref, jv_null, jw_rf, rf_some, rf_none, bz_0, bz_1, i1_0, i0_0, if_true, if_false, ite_self, List.nil_append, List.cons_append, Nat.reduceAdd, Nat.reduceLeDiff, Nat.zero_le, Nat.le_refl, and_self, and_true, true_and, not_true_eq_false, not_false_eq_true, reduceIte, c1, c9, h21, c12, h22, hlt]
        exact K1 hno h21 h22
      · have hn : n < 200 := by
          by_cases e : n = 200
          · rw [hn1, e] at h22; exact absurd rfl h22
          · omega
        have hlt : A 7 22 < 200 := by rw [hn1]; exact nI_lt (b := 200) hn (by omega)
        simp only [s_X4_generate_28, s_X4_generate_28n, s_X4_generate_28z, s_X4_generate_29, s_X4_generate_32, s_X4_generate_35, s_X4_generate_37, s_X4_generate_38, s_X4_generate_38n, s_X4_generate_38z, s_X4_generate_39, s_X4_generate_42, s_X4_generate_45, tl_some, tl_none, cv_int, cv_ref, cv_null, cv_long, cat_rf, jcv_nil, jcat_cons, jv_none, jv_int, jv_ref, jv_null, jw_rf, rf_some, rf_none, bz_0, bz_1, i1_0, i0_0, if_true, if_false, ite_self, List.nil_append, List.cons_append, Nat.reduceAdd, Nat.reduceLeDiff, Nat.zero_le, Nat.le_refl, and_self, and_true, true_and, not_true_eq_false, not_false_eq_true, reduceIte, c1, c9, h21, c12, hlt]
        exact c_gen_go (d := d) hR.cd hV.cd hst h21 h22 e3 e4 (K hno h21 h22)
  by_cases hx : isG A x
  · have hr := nI_range hx.1 (by rw [← h20.1]; exact hx.2) (by omega)
    have ex := nIo (i32_neg hx.1)
    have hx0 : ¬ x = 0 := fun q => by
      rw [q] at hr
      exact absurd hr.1 (by decide)
    obtain ⟨i, hi⟩ : ∃ i, x.toNatClampNeg = i + 1 := ⟨x.toNatClampNeg - 1, by omega⟩
    have hgi : i < ngA A := by omega
    have ei : x.toNatClampNeg - 1 = i := by omega
    have hD : isD A x ↔ A 66 (i + 1) = 3 := by
      unfold isD
      rw [hi]
      exact ⟨fun q => q.2, fun q => ⟨hx, q⟩⟩
    have g1 := (hR.2.2.1.2.1 i hgi).1
    have g6 := (hR.2.2.1.2.1 i hgi).2.2.2.2.2.1
    by_cases h3 : A 66 (i + 1) = 3
    · have hE := E (i + 1) hi (by rw [← hi]; exact ex) (by omega) (fun _ => h3) (fun q => q.2 (hD.mpr h3))
      have e : gR ω (i + 1) = some (ω.2.1 i) := rfl
      rw [e, ← hi, ← ex] at hE
      simp only [s_X4_generate_0, s_X4_generate_0n, s_X4_generate_0z, s_X4_generate_1, s_X4_generate_2, s_X4_generate_5, s_X4_generate_5n, s_X4_generate_5z, s_X4_generate_7, s_X4_generate_8, s_X4_generate_11, s_X4_generate_11n, s_X4_generate_11z, s_X4_generate_13n, s_X4_generate_13, s_X4_generate_13z, s_X4_generate_16, s_X4_generate_16n, s_X4_generate_16z, s_X4_generate_18, s_X4_generate_21, s_X4_generate_22, tl_some, tl_none, cv_int, cv_ref, cv_null, cv_long, cat_rf, jcv_nil, jcat_cons, jv_none, jv_int, jv_ref, jv_null, jw_rf, rf_some, rf_none, bz_0, bz_1, i1_0, i0_0, if_true, if_false, ite_self, List.nil_append, List.cons_append, Nat.reduceAdd, Nat.reduceLeDiff, Nat.zero_le, Nat.le_refl, and_self, and_true, true_and, not_true_eq_false, not_false_eq_true, reduceIte, c1, hgn, if_pos (c := isG A x) hx, ei, hx0, g1, g6, h3]
      exact hE
    · simp only [s_X4_generate_0, s_X4_generate_0n, s_X4_generate_0z, s_X4_generate_1, s_X4_generate_2, s_X4_generate_5, s_X4_generate_5n, s_X4_generate_5z, s_X4_generate_7, s_X4_generate_8, s_X4_generate_11, s_X4_generate_11n, s_X4_generate_11z, s_X4_generate_13n, s_X4_generate_13, s_X4_generate_13z, s_X4_generate_16, s_X4_generate_16n, s_X4_generate_16z, s_X4_generate_18, s_X4_generate_21, s_X4_generate_22, s_X4_generate_25, s_X4_generate_27, tl_some, tl_none, cv_int, cv_ref, cv_null, cv_long, cat_rf, jcv_nil, jcat_cons, jv_none, jv_int, jv_ref, jv_null, jw_rf, rf_some, rf_none, bz_0, bz_1, i1_0, i0_0, if_true, if_false, ite_self, List.nil_append, List.cons_append, Nat.reduceAdd, Nat.reduceLeDiff, Nat.zero_le, Nat.le_refl, and_self, and_true, true_and, not_true_eq_false, not_false_eq_true, reduceIte, c1, hgn, if_pos (c := isG A x) hx, ei, hx0, g1, g6, h3]
      exact K2 ⟨hx0, fun q => h3 (hD.mp q)⟩
  · by_cases hx0 : x = 0
    · subst hx0
      have hE := E 0 (by decide) rfl (by omega) (fun q => absurd rfl q) (fun q => q.1 rfl)
      have e : gR ω 0 = none := rfl
      have e2 : nI 0 = 0 := rfl
      rw [e, e2] at hE
      simp only [s_X4_generate_0, s_X4_generate_0n, s_X4_generate_0z, s_X4_generate_1, s_X4_generate_2, s_X4_generate_5, s_X4_generate_5n, s_X4_generate_5z, s_X4_generate_7, s_X4_generate_8, tl_some, tl_none, cv_int, cv_ref, cv_null, cv_long, cat_rf, jcv_nil, jcat_cons, jv_none, jv_int, jv_ref, jv_null, jw_rf, rf_some, rf_none, bz_0, bz_1, i1_0, i0_0, if_true, if_false, ite_self, List.nil_append, List.cons_append, Nat.reduceAdd, Nat.reduceLeDiff, Nat.zero_le, Nat.le_refl, and_self, and_true, true_and, not_true_eq_false, not_false_eq_true, reduceIte, c1, hgn, if_neg (c := isG A 0) hx]
      exact hE
    · simp only [s_X4_generate_0, s_X4_generate_0n, s_X4_generate_0z, s_X4_generate_1, s_X4_generate_2, s_X4_generate_5, s_X4_generate_5n, s_X4_generate_5z, s_X4_generate_7, s_X4_generate_8, s_X4_generate_11, s_X4_generate_11n, s_X4_generate_11z, s_X4_generate_13n, s_X4_generate_13, s_X4_generate_13z, s_X4_generate_16, s_X4_generate_16n, s_X4_generate_16z, s_X4_generate_18, s_X4_generate_21, s_X4_generate_22, s_X4_generate_25, s_X4_generate_27, tl_some, tl_none, cv_int, cv_ref, cv_null, cv_long, cat_rf, jcv_nil, jcat_cons, jv_none, jv_int, jv_ref, jv_null, jw_rf, rf_some, rf_none, bz_0, bz_1, i1_0, i0_0, if_true, if_false, ite_self, List.nil_append, List.cons_append, Nat.reduceAdd, Nat.reduceLeDiff, Nat.zero_le, Nat.le_refl, and_self, and_true, true_and, not_true_eq_false, not_false_eq_true, reduceIte, c1, hgn, if_neg (c := isG A x) hx, hx0]
      exact K2 ⟨hx0, fun q => hx q.1⟩
end
