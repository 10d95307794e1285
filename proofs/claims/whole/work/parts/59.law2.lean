-- ===== the law: one call (laid by wip/gen/gen59.py) =====
/-- behind a call: the next one may begin -/
def LK (sv : Nat → Value) (d : Nat) (Q : Option Value → jM → Prop) (a m sc out N n : Nat) (S : Nat → Int32) (t u tb ub st : Nat) : Prop := ∀ (ω' : Wd) (t' u' : Nat) (g' : jG) (I' : tI) (J' : tJ) (P' : tP) (A' : Nat → Nat → Int32) (T' : Nat → Int64) (tb' ub' st' : Nat) (l5 l6 : Option Value), Lo sv a m sc out N S ω' t' g' I' J' P' A' T' tb' ub' st' → t ≤ t' → u ≤ u' → t' + tb ≤ t + tb' + 4 → u' + ub ≤ u + ub' + 200 → st' ≤ st + 20 → Ev sv (d + 14) (110, 630, [some (.ref sc), some (.ref a), some (.ref m), some (.ref out), some (.int (nI n)), l5, l6], []) (tv t' u' g' I' J' P') Q
section
variable {sv : Nat → Value} {d t u : Nat} {Q : Option Value → jM → Prop} {g : jG} {I : tI} {J : tJ} {P : tP} {A : Nat → Nat → Int32} {T : Nat → Int64} {ω : Wd} {tb ub st a m sc out N n : Nat} {S : Nat → Int32} {l1 l3 l5 l6 : Option Value} {v : Int32} {V : Int64}

theorem LK.cd (K : LK sv d Q a m sc out N n S t u tb ub st) (h : Lo sv a m sc out N S ω t g I J P A T tb ub st) : Ev sv (d + 14) (110, 630, [some (.ref sc), some (.ref a), some (.ref m), some (.ref out), some (.int (nI n)), l5, l6], []) (tv t u g (ovl I m (cdA A)) (ovJ J m T) P) Q := K ω t u g _ _ P (cdA A) T tb ub st l5 l6 h.cd (Nat.le_refl _) (Nat.le_refl _) (by omega) (by omega) (by omega)
theorem LK.to {ω' : Wd} {t' u' : Nat} {g' : jG} {I' : tI} {J' : tJ} {P' : tP} {A' : Nat → Nat → Int32} {T' : Nat → Int64} {tb' ub' st' : Nat} (K : LK sv d Q a m sc out N n S t u tb ub st) (h : Lo sv a m sc out N S ω t g I J P A T tb ub st) (hR : Rel sv ω' t' g' I' J' P' A' T' tb' ub') (hN : Ny t u g I J P tb ub t' u' g' I' J' P' tb' ub') (hV : Inv ω' I' A' st') (hZ : Z0 A') (hZ1 : Z1 A') (hD : Dg ω' g' A') (hw : ω'.1 = ω.1) (hst : st' ≤ st + 20) : Ev sv (d + 14) (110, 630, [some (.ref sc), some (.ref a), some (.ref m), some (.ref out), some (.int (nI n)), l5, l6], []) (tv t' u' g' (ovl I' m A') (ovJ J' m T') P') Q := K ω' t' u' g' _ _ P' A' T' tb' ub' st' l5 l6 (h.go hR hN hV hZ hZ1 hD hw) hN.2.2.1 hN.2.2.2.1 (by have := hN.2.2.2.2.1; omega) hN.2.2.2.2.2 hst
theorem law_group (h : Lo sv a m sc out N S ω t g I J P A T tb ub st) (hn : n + 3 < N) (hN : N < 100000) (K : LK sv d Q a m sc out N n S t u tb ub st) : Ev sv (d + 14) (110, 140, [some (.ref sc), some (.ref a), some (.ref m), some (.ref out), some (.int (nI n)), l5, l6], []) (tv t u g I J P) Q := by
  refine (bef_group h hn hN).mpr ?_
  have h0 := h
  obtain ⟨⟨hR, hV, hZ, hZ1, hD⟩, ⟨hL, -⟩, ha, -⟩ := h
  subst ha
  have hw := hR.2.2.2.2.2.2.2.1
  have hl : LnA A := hR.2.2.2.2.2.2.2.2.1
  refine c_group (d := d + 6) hR hV hZ hD (fun b1 => ?_) (fun b1 b2 => ?_) (fun b1 b2 b3 => ?_) (fun b1 b2 b3 b4 => ?_) (fun b1 b2 b3 b4 ω' t' u' g' I' J' P' r1 r2 r3 r4 r5 r6 => ?_)
  · have hM := h0.md (Ny.rf (tb := tb) (ub := ub) (t := t) (u := u))
    refine (aft_group hM hn hN).mpr ?_
    refine (m_group (d := d + 12) hM.1 hw).mpr ?_
    rw [if_pos b1]
    simp only [s_L_law_172, tl_some, tl_none, cv_int, cv_ref, cv_null, cv_long, cat_rf, jcv_nil, jcat_cons, jv_none, jv_int, jv_ref, jv_null, jw_rf, rf_some, rf_none, bz_0, bz_1, i1_0, i0_0, if_true, if_false, ite_self, List.nil_append, List.cons_append, Nat.reduceAdd, Nat.reduceLeDiff, Nat.zero_le, Nat.le_refl, and_self, and_true, true_and, not_true_eq_false, not_false_eq_true, reduceIte]
    exact K.cd h0
  · have hM := h0.md (Ny.rf (tb := tb) (ub := ub) (t := t) (u := u))
    refine (aft_group hM hn hN).mpr ?_
    refine (m_group (d := d + 12) hM.1 hw).mpr ?_
    rw [if_neg b1, if_pos b2]
    simp only [s_L_law_172, tl_some, tl_none, cv_int, cv_ref, cv_null, cv_long, cat_rf, jcv_nil, jcat_cons, jv_none, jv_int, jv_ref, jv_null, jw_rf, rf_some, rf_none, bz_0, bz_1, i1_0, i0_0, if_true, if_false, ite_self, List.nil_append, List.cons_append, Nat.reduceAdd, Nat.reduceLeDiff, Nat.zero_le, Nat.le_refl, and_self, and_true, true_and, not_true_eq_false, not_false_eq_true, reduceIte]
    exact K.cd h0
  · have hM := h0.md (Ny.rf (tb := tb) (ub := ub) (t := t) (u := u))
    refine (aft_group hM hn hN).mpr ?_
    refine (m_group (d := d + 12) hM.1 hw).mpr ?_
    rw [if_neg b1, if_neg (fun q => q b2), if_pos b3]
    simp only [s_L_law_172, tl_some, tl_none, cv_int, cv_ref, cv_null, cv_long, cat_rf, jcv_nil, jcat_cons, jv_none, jv_int, jv_ref, jv_null, jw_rf, rf_some, rf_none, bz_0, bz_1, i1_0, i0_0, if_true, if_false, ite_self, List.nil_append, List.cons_append, Nat.reduceAdd, Nat.reduceLeDiff, Nat.zero_le, Nat.le_refl, and_self, and_true, true_and, not_true_eq_false, not_false_eq_true, reduceIte]
    exact K.cd h0
  · have hM := h0.md (Ny.rf (tb := tb) (ub := ub) (t := t) (u := u))
    refine (aft_group hM hn hN).mpr ?_
    refine (m_group (d := d + 12) hM.1 hw).mpr ?_
    rw [if_neg b1, if_neg (fun q => q b2), if_neg b3, if_pos b4]
    simp only [s_L_law_172, tl_some, tl_none, cv_int, cv_ref, cv_null, cv_long, cat_rf, jcv_nil, jcat_cons, jv_none, jv_int, jv_ref, jv_null, jw_rf, rf_some, rf_none, bz_0, bz_1, i1_0, i0_0, if_true, if_false, ite_self, List.nil_append, List.cons_append, Nat.reduceAdd, Nat.reduceLeDiff, Nat.zero_le, Nat.le_refl, and_self, and_true, true_and, not_true_eq_false, not_false_eq_true, reduceIte]
    exact K.cd h0
  · have hM := h0.md (r2)
    refine (aft_group hM hn hN).mpr ?_
    refine (m_group (d := d + 12) hM.1 hw).mpr ?_
    rw [if_neg b1, if_neg (fun q => q b2), if_neg b3, if_neg b4]
    simp only [s_L_law_172, tl_some, tl_none, cv_int, cv_ref, cv_null, cv_long, cat_rf, jcv_nil, jcat_cons, jv_none, jv_int, jv_ref, jv_null, jw_rf, rf_some, rf_none, bz_0, bz_1, i1_0, i0_0, if_true, if_false, ite_self, List.nil_append, List.cons_append, Nat.reduceAdd, Nat.reduceLeDiff, Nat.zero_le, Nat.le_refl, and_self, and_true, true_and, not_true_eq_false, not_false_eq_true, reduceIte]
    exact K.to h0 r1 r2 r3 r4 (hZ1.at ((grpA_o (by omega) (by omega) (by omega)).trans rfl) (fun j => (grpA_o (by omega) (by omega) (by omega)).trans rfl)) r5 r6 (by omega)
theorem law_sum (h : Lo sv a m sc out N S ω t g I J P A T tb ub st) (hn : n + 3 < N) (hN : N < 100000) (K : LK sv d Q a m sc out N n S t u tb ub st) : Ev sv (d + 14) (110, 242, [some (.ref sc), some (.ref a), some (.ref m), some (.ref out), some (.int (nI n)), l5, l6], []) (tv t u g I J P) Q := by
  refine (bef_sum h hn hN).mpr ?_
  have h0 := h
  obtain ⟨⟨hR, hV, hZ, hZ1, hD⟩, ⟨hL, -⟩, ha, -⟩ := h
  subst ha
  have hw := hR.2.2.2.2.2.2.2.1
  have hl : LnA A := hR.2.2.2.2.2.2.2.2.1
  refine c_sum (d := d + 6) hR hV hZ1 hD (fun b1 => ?_) (fun b1 b2 => ?_) (fun b1 b2 b3 => ?_) (fun b1 b2 b3 b4 => ?_) (fun b1 b2 b3 b4 ω' t' u' g' I' J' P' r1 r2 r3 r4 r5 r6 => ?_)
  · have hM := h0.md (Ny.rf (tb := tb) (ub := ub) (t := t) (u := u))
    refine (aft_sum hM hn hN).mpr ?_
    refine (m_sum (d := d + 10) hM.1 hw).mpr ?_
    rw [if_pos b1]
    simp only [s_L_law_286, tl_some, tl_none, cv_int, cv_ref, cv_null, cv_long, cat_rf, jcv_nil, jcat_cons, jv_none, jv_int, jv_ref, jv_null, jw_rf, rf_some, rf_none, bz_0, bz_1, i1_0, i0_0, if_true, if_false, ite_self, List.nil_append, List.cons_append, Nat.reduceAdd, Nat.reduceLeDiff, Nat.zero_le, Nat.le_refl, and_self, and_true, true_and, not_true_eq_false, not_false_eq_true, reduceIte]
    exact K.cd h0
  · have hM := h0.md (Ny.rf (tb := tb) (ub := ub) (t := t) (u := u))
    refine (aft_sum hM hn hN).mpr ?_
    refine (m_sum (d := d + 10) hM.1 hw).mpr ?_
    rw [if_neg (fun q => q b1), if_pos b2]
    simp only [s_L_law_286, tl_some, tl_none, cv_int, cv_ref, cv_null, cv_long, cat_rf, jcv_nil, jcat_cons, jv_none, jv_int, jv_ref, jv_null, jw_rf, rf_some, rf_none, bz_0, bz_1, i1_0, i0_0, if_true, if_false, ite_self, List.nil_append, List.cons_append, Nat.reduceAdd, Nat.reduceLeDiff, Nat.zero_le, Nat.le_refl, and_self, and_true, true_and, not_true_eq_false, not_false_eq_true, reduceIte]
    exact K.cd h0
  · have hM := h0.md (Ny.rf (tb := tb) (ub := ub) (t := t) (u := u))
    refine (aft_sum hM hn hN).mpr ?_
    refine (m_sum (d := d + 10) hM.1 hw).mpr ?_
    rw [if_neg (fun q => q b1), if_neg b2, if_pos b3]
    simp only [s_L_law_286, tl_some, tl_none, cv_int, cv_ref, cv_null, cv_long, cat_rf, jcv_nil, jcat_cons, jv_none, jv_int, jv_ref, jv_null, jw_rf, rf_some, rf_none, bz_0, bz_1, i1_0, i0_0, if_true, if_false, ite_self, List.nil_append, List.cons_append, Nat.reduceAdd, Nat.reduceLeDiff, Nat.zero_le, Nat.le_refl, and_self, and_true, true_and, not_true_eq_false, not_false_eq_true, reduceIte]
    exact K.cd h0
  · have hM := h0.md (Ny.rf (tb := tb) (ub := ub) (t := t) (u := u))
    refine (aft_sum hM hn hN).mpr ?_
    refine (m_sum (d := d + 10) hM.1 hw).mpr ?_
    rw [if_neg (fun q => q b1), if_neg b2, if_neg (fun q => q b3), if_pos b4]
    simp only [s_L_law_286, tl_some, tl_none, cv_int, cv_ref, cv_null, cv_long, cat_rf, jcv_nil, jcat_cons, jv_none, jv_int, jv_ref, jv_null, jw_rf, rf_some, rf_none, bz_0, bz_1, i1_0, i0_0, if_true, if_false, ite_self, List.nil_append, List.cons_append, Nat.reduceAdd, Nat.reduceLeDiff, Nat.zero_le, Nat.le_refl, and_self, and_true, true_and, not_true_eq_false, not_false_eq_true, reduceIte]
    exact K.cd h0
  · have hM := h0.md (r2)
    refine (aft_sum hM hn hN).mpr ?_
    refine (m_sum (d := d + 10) hM.1 hw).mpr ?_
    rw [if_neg (fun q => q b1), if_neg b2, if_neg (fun q => q b3), if_neg b4]
    simp only [s_L_law_286, tl_some, tl_none, cv_int, cv_ref, cv_null, cv_long, cat_rf, jcv_nil, jcat_cons, jv_none, jv_int, jv_ref, jv_null, jw_rf, rf_some, rf_none, bz_0, bz_1, i1_0, i0_0, if_true, if_false, ite_self, List.nil_append, List.cons_append, Nat.reduceAdd, Nat.reduceLeDiff, Nat.zero_le, Nat.le_refl, and_self, and_true, true_and, not_true_eq_false, not_false_eq_true, reduceIte]
    exact K.to h0 r1 r2 r3 (hZ.at (by unfold ngA; rw [sumA_o (by omega) (by omega)]; rfl) (fun κ j hκ _ => (sumA_o (by omega) (by omega)).trans (if_neg (fun q => by omega)))) r4 r5 r6 (by omega)
theorem law_control (h : Lo sv a m sc out N S ω t g I J P A T tb ub st) (hn : n + 3 < N) (hN : N < 100000) (K : LK sv d Q a m sc out N n S t u tb ub st) : Ev sv (d + 14) (110, 291, [some (.ref sc), some (.ref a), some (.ref m), some (.ref out), some (.int (nI n)), l5, l6], []) (tv t u g I J P) Q := by
  refine (bef_control h hn hN).mpr ?_
  have h0 := h
  obtain ⟨⟨hR, hV, hZ, hZ1, hD⟩, ⟨hL, -⟩, ha, -⟩ := h
  subst ha
  have hw := hR.2.2.2.2.2.2.2.1
  have hl : LnA A := hR.2.2.2.2.2.2.2.2.1
  refine c_control (d := d + 13) hR hV (fun b1 => ?_) (fun b1 b2 => ?_) (fun b1 b2 I' r1 r2 r3 => ?_)
  · have hM := h0.md (Ny.rf (tb := tb) (ub := ub) (t := t) (u := u))
    refine (aft_control hM hn hN).mpr ?_
    refine (m_control (d := d + 13) hM.1 hw).mpr ?_
    rw [if_neg b1]
    simp only [s_L_law_311, tl_some, tl_none, cv_int, cv_ref, cv_null, cv_long, cat_rf, jcv_nil, jcat_cons, jv_none, jv_int, jv_ref, jv_null, jw_rf, rf_some, rf_none, bz_0, bz_1, i1_0, i0_0, if_true, if_false, ite_self, List.nil_append, List.cons_append, Nat.reduceAdd, Nat.reduceLeDiff, Nat.zero_le, Nat.le_refl, and_self, and_true, true_and, not_true_eq_false, not_false_eq_true, reduceIte]
    exact K.cd h0
  · have hM := h0.md (Ny.rf (tb := tb) (ub := ub) (t := t) (u := u))
    refine (aft_control hM hn hN).mpr ?_
    refine (m_control (d := d + 13) hM.1 hw).mpr ?_
    rw [if_pos b1, if_pos b2]
    simp only [s_L_law_311, tl_some, tl_none, cv_int, cv_ref, cv_null, cv_long, cat_rf, jcv_nil, jcat_cons, jv_none, jv_int, jv_ref, jv_null, jw_rf, rf_some, rf_none, bz_0, bz_1, i1_0, i0_0, if_true, if_false, ite_self, List.nil_append, List.cons_append, Nat.reduceAdd, Nat.reduceLeDiff, Nat.zero_le, Nat.le_refl, and_self, and_true, true_and, not_true_eq_false, not_false_eq_true, reduceIte]
    exact K.cd h0
  · have hM := h0.md (r2.ny)
    refine (aft_control hM hn hN).mpr ?_
    refine (m_control (d := d + 13) hM.1 hw).mpr ?_
    rw [if_pos b1, if_neg b2]
    simp only [s_L_law_311, tl_some, tl_none, cv_int, cv_ref, cv_null, cv_long, cat_rf, jcv_nil, jcat_cons, jv_none, jv_int, jv_ref, jv_null, jw_rf, rf_some, rf_none, bz_0, bz_1, i1_0, i0_0, if_true, if_false, ite_self, List.nil_append, List.cons_append, Nat.reduceAdd, Nat.reduceLeDiff, Nat.zero_le, Nat.le_refl, and_self, and_true, true_and, not_true_eq_false, not_false_eq_true, reduceIte]
    exact K.to h0 r1 r2.ny r3 (hZ.at rfl (fun κ j hκ _ => by unfold ctlA cdA; rw [upA_ap, if_neg (fun q => by omega), upA_ap, if_neg (fun q => by omega), upA_ap, if_neg (fun q => by omega)])) (hZ1.at rfl (fun _ => rfl)) (hD.at (gle_rf g) rfl rfl) rfl (by omega)
theorem law_set (h : Lo sv a m sc out N S ω t g I J P A T tb ub st) (hn : n + 3 < N) (hN : N < 100000) (K : LK sv d Q a m sc out N n S t u tb ub st) : Ev sv (d + 14) (110, 316, [some (.ref sc), some (.ref a), some (.ref m), some (.ref out), some (.int (nI n)), l5, l6], []) (tv t u g I J P) Q := by
  refine (bef_set h hn hN).mpr ?_
  have h0 := h
  obtain ⟨⟨hR, hV, hZ, hZ1, hD⟩, ⟨hL, -⟩, ha, -⟩ := h
  subst ha
  have hw := hR.2.2.2.2.2.2.2.1
  have hl : LnA A := hR.2.2.2.2.2.2.2.2.1
  refine c_set (d := d + 13) hR hV (fun b1 => ?_) (fun b1 I' r1 r2 r3 => ?_)
  · have hM := h0.md (Ny.rf (tb := tb) (ub := ub) (t := t) (u := u))
    refine (aft_set hM hn hN).mpr ?_
    refine (m_set (d := d + 13) hM.1 hw).mpr ?_
    rw [if_pos b1]
    simp only [s_L_law_348, tl_some, tl_none, cv_int, cv_ref, cv_null, cv_long, cat_rf, jcv_nil, jcat_cons, jv_none, jv_int, jv_ref, jv_null, jw_rf, rf_some, rf_none, bz_0, bz_1, i1_0, i0_0, if_true, if_false, ite_self, List.nil_append, List.cons_append, Nat.reduceAdd, Nat.reduceLeDiff, Nat.zero_le, Nat.le_refl, and_self, and_true, true_and, not_true_eq_false, not_false_eq_true, reduceIte]
    exact K.cd h0
  · have hM := h0.md (r2.ny)
    refine (aft_set hM hn hN).mpr ?_
    refine (m_set (d := d + 13) hM.1 hw).mpr ?_
    rw [if_neg b1]
    simp only [s_L_law_348, tl_some, tl_none, cv_int, cv_ref, cv_null, cv_long, cat_rf, jcv_nil, jcat_cons, jv_none, jv_int, jv_ref, jv_null, jw_rf, rf_some, rf_none, bz_0, bz_1, i1_0, i0_0, if_true, if_false, ite_self, List.nil_append, List.cons_append, Nat.reduceAdd, Nat.reduceLeDiff, Nat.zero_le, Nat.le_refl, and_self, and_true, true_and, not_true_eq_false, not_false_eq_true, reduceIte]
    exact K.to h0 r1 r2.ny r3 (hZ.at rfl (fun κ j hκ _ => by unfold cdA; rw [upA_ap, if_neg (fun q => by omega), upA_ap, if_neg (fun q => by omega)])) (hZ1.at rfl (fun _ => rfl)) (hD.at (gle_rf g) rfl rfl) rfl (by omega)
theorem law_initiate (h : Lo sv a m sc out N S ω t g I J P A T tb ub st) (hn : n + 3 < N) (hN : N < 100000) (K : LK sv d Q a m sc out N n S t u tb ub st) : Ev sv (d + 14) (110, 353, [some (.ref sc), some (.ref a), some (.ref m), some (.ref out), some (.int (nI n)), l5, l6], []) (tv t u g I J P) Q := by
  refine (bef_initiate h hn hN).mpr ?_
  have h0 := h
  obtain ⟨⟨hR, hV, hZ, hZ1, hD⟩, ⟨hL, -⟩, ha, -⟩ := h
  subst ha
  have hw := hR.2.2.2.2.2.2.2.1
  have hl : LnA A := hR.2.2.2.2.2.2.2.2.1
  refine c_initiate (d := d + 9) hR hV (fun b1 => ?_) (fun b1 I' J' r1 r2 r3 => ?_)
  · have hM := h0.md (Ny.rf (tb := tb) (ub := ub) (t := t) (u := u))
    refine (aft_initiate hM hn hN).mpr ?_
    refine (m_initiate (d := d + 12) hM.1).mpr ?_
    rw [if_neg b1]
    simp only [s_L_law_361, tl_some, tl_none, cv_int, cv_ref, cv_null, cv_long, cat_rf, jcv_nil, jcat_cons, jv_none, jv_int, jv_ref, jv_null, jw_rf, rf_some, rf_none, bz_0, bz_1, i1_0, i0_0, if_true, if_false, ite_self, List.nil_append, List.cons_append, Nat.reduceAdd, Nat.reduceLeDiff, Nat.zero_le, Nat.le_refl, and_self, and_true, true_and, not_true_eq_false, not_false_eq_true, reduceIte]
    exact K.cd h0
  · have hM := h0.md (r2.ny)
    refine (aft_initiate hM hn hN).mpr ?_
    refine (m_initiate (d := d + 12) hM.1).mpr ?_
    rw [if_pos b1]
    simp only [s_L_law_361, tl_some, tl_none, cv_int, cv_ref, cv_null, cv_long, cat_rf, jcv_nil, jcat_cons, jv_none, jv_int, jv_ref, jv_null, jw_rf, rf_some, rf_none, bz_0, bz_1, i1_0, i0_0, if_true, if_false, ite_self, List.nil_append, List.cons_append, Nat.reduceAdd, Nat.reduceLeDiff, Nat.zero_le, Nat.le_refl, and_self, and_true, true_and, not_true_eq_false, not_false_eq_true, reduceIte]
    exact K.to h0 r1 r2.ny r3 (hZ.kp (initA_zk A) (initA_fs A)) (hZ1.kp (initA_fs A)) (hD.kp (gle_rf g) (initA_fs A)) rfl (by omega)
theorem law_generate (h : Lo sv a m sc out N S ω t g I J P A T tb ub st) (hn : n + 3 < N) (hN : N < 100000) (hst : st + 30 < 999999) (K : LK sv d Q a m sc out N n S t u tb ub st) : Ev sv (d + 14) (110, 366, [some (.ref sc), some (.ref a), some (.ref m), some (.ref out), some (.int (nI n)), l5, l6], []) (tv t u g I J P) Q := by
  refine (bef_generate h hn hN).mpr ?_
  have h0 := h
  obtain ⟨⟨hR, hV, hZ, hZ1, hD⟩, ⟨hL, -⟩, ha, -⟩ := h
  subst ha
  have hw := hR.2.2.2.2.2.2.2.1
  have hl : LnA A := hR.2.2.2.2.2.2.2.2.1
  have hb : ln A ≤ 66200 := by
    obtain ⟨k, -, k2, k3, -⟩ := hV.2.2.2.2.1
    omega
  refine c_generate (d := d) hR hV hst (fun b1 => ?_) (fun b1 b2 => ?_) (fun b1 b2 b3 => ?_) (fun b1 b2 b3 t' u' g' I' J' P' tb' ub' st' r1 r2 r3 r4 => ?_)
  · have hM := h0.md (Ny.rf (tb := tb) (ub := ub) (t := t) (u := u))
    refine (aft_generate hM hn hN).mpr ?_
    refine (m_generate (d := d + 7) hM.1 hw hl (by omega)).mpr ?_
    rw [if_pos b1]
    simp only [s_L_law_430, tl_some, tl_none, cv_int, cv_ref, cv_null, cv_long, cat_rf, jcv_nil, jcat_cons, jv_none, jv_int, jv_ref, jv_null, jw_rf, rf_some, rf_none, bz_0, bz_1, i1_0, i0_0, if_true, if_false, ite_self, List.nil_append, List.cons_append, Nat.reduceAdd, Nat.reduceLeDiff, Nat.zero_le, Nat.le_refl, and_self, and_true, true_and, not_true_eq_false, not_false_eq_true, reduceIte]
    exact K.cd h0
  · have hM := h0.md (Ny.rf (tb := tb) (ub := ub) (t := t) (u := u))
    refine (aft_generate hM hn hN).mpr ?_
    refine (m_generate (d := d + 7) hM.1 hw hl (by omega)).mpr ?_
    rw [if_neg b1, if_pos b2]
    simp only [s_L_law_430, tl_some, tl_none, cv_int, cv_ref, cv_null, cv_long, cat_rf, jcv_nil, jcat_cons, jv_none, jv_int, jv_ref, jv_null, jw_rf, rf_some, rf_none, bz_0, bz_1, i1_0, i0_0, if_true, if_false, ite_self, List.nil_append, List.cons_append, Nat.reduceAdd, Nat.reduceLeDiff, Nat.zero_le, Nat.le_refl, and_self, and_true, true_and, not_true_eq_false, not_false_eq_true, reduceIte]
    exact K.cd h0
  · have hM := h0.md (Ny.rf (tb := tb) (ub := ub) (t := t) (u := u))
    refine (aft_generate hM hn hN).mpr ?_
    refine (m_generate (d := d + 7) hM.1 hw hl (by omega)).mpr ?_
    rw [if_neg b1, if_neg b2, if_pos b3]
    simp only [s_L_law_430, tl_some, tl_none, cv_int, cv_ref, cv_null, cv_long, cat_rf, jcv_nil, jcat_cons, jv_none, jv_int, jv_ref, jv_null, jw_rf, rf_some, rf_none, bz_0, bz_1, i1_0, i0_0, if_true, if_false, ite_self, List.nil_append, List.cons_append, Nat.reduceAdd, Nat.reduceLeDiff, Nat.zero_le, Nat.le_refl, and_self, and_true, true_and, not_true_eq_false, not_false_eq_true, reduceIte]
    exact K.cd h0
  · have hM := h0.md (r2.ny)
    refine (aft_generate hM hn hN).mpr ?_
    refine (m_generate (d := d + 7) hM.1 hw hl (by omega)).mpr ?_
    rw [if_neg b1, if_neg b2, if_neg b3]
    simp only [s_L_law_430, tl_some, tl_none, cv_int, cv_ref, cv_null, cv_long, cat_rf, jcv_nil, jcat_cons, jv_none, jv_int, jv_ref, jv_null, jw_rf, rf_some, rf_none, bz_0, bz_1, i1_0, i0_0, if_true, if_false, ite_self, List.nil_append, List.cons_append, Nat.reduceAdd, Nat.reduceLeDiff, Nat.zero_le, Nat.le_refl, and_self, and_true, true_and, not_true_eq_false, not_false_eq_true, reduceIte]
    exact K.to h0 r1 r2.ny r3 (hZ.kp ((cdA_zk A).tr (genA_zk _ _ _ _)) ((cdA_fr A).fs.tr (genA_fs _ _ _ _))) (hZ1.kp ((cdA_fr A).fs.tr (genA_fs _ _ _ _))) (hD.kp r2.1 ((cdA_fr A).fs.tr (genA_fs _ _ _ _))) rfl r4
theorem law_terminate (h : Lo sv a m sc out N S ω t g I J P A T tb ub st) (hn : n + 3 < N) (hN : N < 100000) (hst : st + 30 < 999999) (K : LK sv d Q a m sc out N n S t u tb ub st) : Ev sv (d + 14) (110, 435, [some (.ref sc), some (.ref a), some (.ref m), some (.ref out), some (.int (nI n)), l5, l6], []) (tv t u g I J P) Q := by
  refine (bef_terminate h hn hN).mpr ?_
  have h0 := h
  obtain ⟨⟨hR, hV, hZ, hZ1, hD⟩, ⟨hL, -⟩, ha, -⟩ := h
  subst ha
  have hw := hR.2.2.2.2.2.2.2.1
  have hl : LnA A := hR.2.2.2.2.2.2.2.2.1
  have hb : ln A ≤ 66200 := by
    obtain ⟨k, -, k2, k3, -⟩ := hV.2.2.2.2.1
    omega
  refine c_terminate (d := d) hR hV hst (fun b1 => ?_) (fun b1 b2 I' r1 r2 r3 => ?_) (fun b1 b2 t' u' g' I' J' P' tb' ub' st' r1 r2 r3 r4 => ?_)
  · have hM := h0.md (Ny.rf (tb := tb) (ub := ub) (t := t) (u := u))
    refine (aft_terminate hM hn hN).mpr ?_
    refine (m_terminate (d := d + 7) hM.1 hw hl (by omega)).mpr ?_
    rw [if_pos b1]
    simp only [s_L_law_443, tl_some, tl_none, cv_int, cv_ref, cv_null, cv_long, cat_rf, jcv_nil, jcat_cons, jv_none, jv_int, jv_ref, jv_null, jw_rf, rf_some, rf_none, bz_0, bz_1, i1_0, i0_0, if_true, if_false, ite_self, List.nil_append, List.cons_append, Nat.reduceAdd, Nat.reduceLeDiff, Nat.zero_le, Nat.le_refl, and_self, and_true, true_and, not_true_eq_false, not_false_eq_true, reduceIte]
    exact K.cd h0
  · have hM := h0.md (r2.ny)
    refine (aft_terminate hM hn hN).mpr ?_
    refine (m_terminate (d := d + 7) hM.1 hw hl (by omega)).mpr ?_
    rw [if_neg b1, if_pos b2]
    simp only [s_L_law_443, tl_some, tl_none, cv_int, cv_ref, cv_null, cv_long, cat_rf, jcv_nil, jcat_cons, jv_none, jv_int, jv_ref, jv_null, jw_rf, rf_some, rf_none, bz_0, bz_1, i1_0, i0_0, if_true, if_false, ite_self, List.nil_append, List.cons_append, Nat.reduceAdd, Nat.reduceLeDiff, Nat.zero_le, Nat.le_refl, and_self, and_true, true_and, not_true_eq_false, not_false_eq_true, reduceIte]
    exact K.to h0 r1 r2.ny r3 (hZ.at rfl (fun κ j hκ _ => by unfold cdA; rw [upA_ap, if_neg (fun q => by omega), upA_ap, if_neg (fun q => by omega)])) (hZ1.at rfl (fun _ => rfl)) (hD.at (gle_rf g) rfl rfl) rfl (by omega)
  · have hM := h0.md (r2.ny)
    refine (aft_terminate hM hn hN).mpr ?_
    refine (m_terminate (d := d + 7) hM.1 hw hl (by omega)).mpr ?_
    rw [if_neg b1, if_neg b2]
    simp only [s_L_law_443, tl_some, tl_none, cv_int, cv_ref, cv_null, cv_long, cat_rf, jcv_nil, jcat_cons, jv_none, jv_int, jv_ref, jv_null, jw_rf, rf_some, rf_none, bz_0, bz_1, i1_0, i0_0, if_true, if_false, ite_self, List.nil_append, List.cons_append, Nat.reduceAdd, Nat.reduceLeDiff, Nat.zero_le, Nat.le_refl, and_self, and_true, true_and, not_true_eq_false, not_false_eq_true, reduceIte]
    exact K.to h0 r1 r2.ny r3 (hZ.kp (termA_zk A T) (termA_fs A T)) (hZ1.kp (termA_fs A T)) (hD.kp r2.1 (termA_fs A T)) rfl r4
theorem law_lines (h : Lo sv a m sc out N S ω t g I J P A T tb ub st) (hn : n + 3 < N) (hN : N < 100000) (K : LK sv d Q a m sc out N n S t u tb ub st) : Ev sv (d + 14) (110, 516, [some (.ref sc), some (.ref a), some (.ref m), some (.ref out), some (.int (nI n)), l5, l6], []) (tv t u g I J P) Q := by
  refine (bef_lines h hn hN).mpr ?_
  have h0 := h
  obtain ⟨⟨hR, hV, hZ, hZ1, hD⟩, ⟨hL, -⟩, ha, -⟩ := h
  subst ha
  have hw := hR.2.2.2.2.2.2.2.1
  have hl : LnA A := hR.2.2.2.2.2.2.2.2.1
  refine (c_lines (d := d + 13) hR).mpr ?_
  · have hM := h0.md (Ny.rf (tb := tb) (ub := ub) (t := t) (u := u))
    refine (aft_lines hM hn hN).mpr ?_
    refine (m_lines (d := d + 13) hM.1).mpr ?_
    simp only [s_L_law_524, tl_some, tl_none, cv_int, cv_ref, cv_null, cv_long, cat_rf, jcv_nil, jcat_cons, jv_none, jv_int, jv_ref, jv_null, jw_rf, rf_some, rf_none, bz_0, bz_1, i1_0, i0_0, if_true, if_false, ite_self, List.nil_append, List.cons_append, Nat.reduceAdd, Nat.reduceLeDiff, Nat.zero_le, Nat.le_refl, and_self, and_true, true_and, not_true_eq_false, not_false_eq_true, reduceIte]
    exact K.cd h0
theorem lg_cmp_rf (X : Int64) : lg_cmp X X = 0 := by unfold lg_cmp; simp
theorem law_total (h : Lo sv a m sc out N S ω t g I J P A T tb ub st) (hn : n + 3 < N) (hN : N < 100000) (K : LK sv d Q a m sc out N n S t u tb ub st) : Ev sv (d + 14) (110, 529, [some (.ref sc), some (.ref a), some (.ref m), some (.ref out), some (.int (nI n)), l5, l6], []) (tv t u g I J P) Q := by
  refine (bef_total h hn hN).mpr ?_
  have h0 := h
  obtain ⟨⟨hR, hV, hZ, hZ1, hD⟩, ⟨hL, -⟩, ha, -⟩ := h
  subst ha
  have hw := hR.2.2.2.2.2.2.2.1
  have hl : LnA A := hR.2.2.2.2.2.2.2.2.1
  refine (c_total (d := d + 9) hR).mpr ?_
  · have hM := h0.md (Ny.rf (tb := tb) (ub := ub) (t := t) (u := u))
    refine (aft_total hM hn hN).mpr ?_
    refine (m_total (d := d + 13) hM.1 hw).mpr ?_
    simp only [s_L_law_549, s_L_law_550, lg_cmp_rf, tl_some, tl_none, cv_int, cv_ref, cv_null, cv_long, cat_rf, jcv_nil, jcat_cons, jv_none, jv_int, jv_ref, jv_null, jw_rf, rf_some, rf_none, bz_0, bz_1, i1_0, i0_0, if_true, if_false, ite_self, List.nil_append, List.cons_append, Nat.reduceAdd, Nat.reduceLeDiff, Nat.zero_le, Nat.le_refl, and_self, and_true, true_and, not_true_eq_false, not_false_eq_true, reduceIte]
    exact K.cd h0
theorem law_counter (h : Lo sv a m sc out N S ω t g I J P A T tb ub st) (hn : n + 3 < N) (hN : N < 100000) (K : LK sv d Q a m sc out N n S t u tb ub st) : Ev sv (d + 14) (110, 555, [some (.ref sc), some (.ref a), some (.ref m), some (.ref out), some (.int (nI n)), l5, l6], []) (tv t u g I J P) Q := by
  refine (bef_counter h hn hN).mpr ?_
  have h0 := h
  obtain ⟨⟨hR, hV, hZ, hZ1, hD⟩, ⟨hL, -⟩, ha, -⟩ := h
  subst ha
  have hw := hR.2.2.2.2.2.2.2.1
  have hl : LnA A := hR.2.2.2.2.2.2.2.2.1
  refine (c_counter (d := d + 12) hR).mpr ?_
  · have hM := h0.md (Ny.rf (tb := tb) (ub := ub) (t := t) (u := u))
    refine (aft_counter hM hn hN).mpr ?_
    refine (m_counter (d := d + 13) hM.1).mpr ?_
    simp only [s_L_law_575, tl_some, tl_none, cv_int, cv_ref, cv_null, cv_long, cat_rf, jcv_nil, jcat_cons, jv_none, jv_int, jv_ref, jv_null, jw_rf, rf_some, rf_none, bz_0, bz_1, i1_0, i0_0, if_true, if_false, ite_self, List.nil_append, List.cons_append, Nat.reduceAdd, Nat.reduceLeDiff, Nat.zero_le, Nat.le_refl, and_self, and_true, true_and, not_true_eq_false, not_false_eq_true, reduceIte]
    exact K.cd h0
theorem law_suppress (h : Lo sv a m sc out N S ω t g I J P A T tb ub st) (hn : n + 3 < N) (hN : N < 100000) (K : LK sv d Q a m sc out N n S t u tb ub st) : Ev sv (d + 14) (110, 580, [some (.ref sc), some (.ref a), some (.ref m), some (.ref out), some (.int (nI n)), l5, l6], []) (tv t u g I J P) Q := by
  refine (bef_suppress h hn hN).mpr ?_
  have h0 := h
  obtain ⟨⟨hR, hV, hZ, hZ1, hD⟩, ⟨hL, -⟩, ha, -⟩ := h
  subst ha
  have hw := hR.2.2.2.2.2.2.2.1
  have hl : LnA A := hR.2.2.2.2.2.2.2.2.1
  refine c_suppress (d := d + 9) hR hV (fun b1 => ?_) (fun b1 b2 r1 r3 => ?_) (fun b1 b2 I' r1 r2 r3 => ?_)
  · have hM := h0.md (Ny.rf (tb := tb) (ub := ub) (t := t) (u := u))
    refine (aft_suppress hM hn hN).mpr ?_
    refine (m_suppress (d := d + 12) hM.1 hw).mpr ?_
    rw [if_neg b1]
    simp only [s_L_law_600, tl_some, tl_none, cv_int, cv_ref, cv_null, cv_long, cat_rf, jcv_nil, jcat_cons, jv_none, jv_int, jv_ref, jv_null, jw_rf, rf_some, rf_none, bz_0, bz_1, i1_0, i0_0, if_true, if_false, ite_self, List.nil_append, List.cons_append, Nat.reduceAdd, Nat.reduceLeDiff, Nat.zero_le, Nat.le_refl, and_self, and_true, true_and, not_true_eq_false, not_false_eq_true, reduceIte]
    exact K.cd h0
  · have hM := h0.md (Ny.rf (tb := tb) (ub := ub) (t := t) (u := u))
    refine (aft_suppress hM hn hN).mpr ?_
    refine (m_suppress (d := d + 12) hM.1 hw).mpr ?_
    rw [if_pos b1, if_neg b2]
    simp only [s_L_law_600, tl_some, tl_none, cv_int, cv_ref, cv_null, cv_long, cat_rf, jcv_nil, jcat_cons, jv_none, jv_int, jv_ref, jv_null, jw_rf, rf_some, rf_none, bz_0, bz_1, i1_0, i0_0, if_true, if_false, ite_self, List.nil_append, List.cons_append, Nat.reduceAdd, Nat.reduceLeDiff, Nat.zero_le, Nat.le_refl, and_self, and_true, true_and, not_true_eq_false, not_false_eq_true, reduceIte]
    exact K.to h0 r1 Ny.rf r3 (hZ.at rfl (fun κ j hκ hj => by unfold cdA; rw [upA_ap, if_neg (fun q => by have := (nI_range (b1).1 (by rw [← hw.1.1]; exact (b1).2) (by have := hw.1.2; omega)).2; omega), upA_ap, if_neg (fun q => by omega)])) (hZ1.at rfl (fun _ => rfl)) (hD.at (gle_rf g) rfl rfl) rfl (by omega)
  · have hM := h0.md (r2.ny)
    refine (aft_suppress hM hn hN).mpr ?_
    refine (m_suppress (d := d + 12) hM.1 hw).mpr ?_
    rw [if_pos b1, if_pos b2]
    simp only [s_L_law_600, tl_some, tl_none, cv_int, cv_ref, cv_null, cv_long, cat_rf, jcv_nil, jcat_cons, jv_none, jv_int, jv_ref, jv_null, jw_rf, rf_some, rf_none, bz_0, bz_1, i1_0, i0_0, if_true, if_false, ite_self, List.nil_append, List.cons_append, Nat.reduceAdd, Nat.reduceLeDiff, Nat.zero_le, Nat.le_refl, and_self, and_true, true_and, not_true_eq_false, not_false_eq_true, reduceIte]
    exact K.to h0 r1 r2.ny r3 (hZ.at rfl (fun κ j hκ hj => by unfold cdA; rw [upA_ap, if_neg (fun q => by have := (nI_range (b1).1 (by rw [← hw.1.1]; exact (b1).2) (by have := hw.1.2; omega)).2; omega), upA_ap, if_neg (fun q => by omega)])) (hZ1.at rfl (fun _ => rfl)) (hD.at (gle_rf g) rfl rfl) rfl (by omega)
theorem law_indicate (h : Lo sv a m sc out N S ω t g I J P A T tb ub st) (hn : n + 3 < N) (hN : N < 100000) (K : LK sv d Q a m sc out N n S t u tb ub st) : Ev sv (d + 14) (110, 605, [some (.ref sc), some (.ref a), some (.ref m), some (.ref out), some (.int (nI n)), l5, l6], []) (tv t u g I J P) Q := by
  refine (bef_indicate h hn hN).mpr ?_
  have h0 := h
  obtain ⟨⟨hR, hV, hZ, hZ1, hD⟩, ⟨hL, -⟩, ha, -⟩ := h
  subst ha
  have hw := hR.2.2.2.2.2.2.2.1
  have hl : LnA A := hR.2.2.2.2.2.2.2.2.1
  refine c_indicate (d := d + 9) hR hV (fun b1 => ?_) (fun b1 b2 I' r1 r2 r3 => ?_) (fun b1 b2 I' r1 r2 r3 => ?_)
  · have hM := h0.md (Ny.rf (tb := tb) (ub := ub) (t := t) (u := u))
    refine (aft_indicate hM hn hN).mpr ?_
    refine (m_indicate (d := d + 11) hM.1 hw).mpr ?_
    rw [if_neg b1]
    simp only [s_L_law_625, tl_some, tl_none, cv_int, cv_ref, cv_null, cv_long, cat_rf, jcv_nil, jcat_cons, jv_none, jv_int, jv_ref, jv_null, jw_rf, rf_some, rf_none, bz_0, bz_1, i1_0, i0_0, if_true, if_false, ite_self, List.nil_append, List.cons_append, Nat.reduceAdd, Nat.reduceLeDiff, Nat.zero_le, Nat.le_refl, and_self, and_true, true_and, not_true_eq_false, not_false_eq_true, reduceIte]
    exact K.cd h0
  · have hM := h0.md (r2.ny)
    refine (aft_indicate hM hn hN).mpr ?_
    refine (m_indicate (d := d + 11) hM.1 hw).mpr ?_
    rw [if_pos b1, if_pos b2]
    simp only [s_L_law_625, tl_some, tl_none, cv_int, cv_ref, cv_null, cv_long, cat_rf, jcv_nil, jcat_cons, jv_none, jv_int, jv_ref, jv_null, jw_rf, rf_some, rf_none, bz_0, bz_1, i1_0, i0_0, if_true, if_false, ite_self, List.nil_append, List.cons_append, Nat.reduceAdd, Nat.reduceLeDiff, Nat.zero_le, Nat.le_refl, and_self, and_true, true_and, not_true_eq_false, not_false_eq_true, reduceIte]
    exact K.to h0 r1 r2.ny r3 (hZ.at rfl (fun κ j hκ hj => by unfold cdA; rw [upA_ap, if_neg (fun q => by have := (nI_range (b1.1).1 (by rw [← hw.1.1]; exact (b1.1).2) (by have := hw.1.2; omega)).2; omega), upA_ap, if_neg (fun q => by omega)])) (hZ1.at rfl (fun _ => rfl)) (hD.at (gle_rf g) rfl rfl) rfl (by omega)
  · have hM := h0.md (r2.ny)
    refine (aft_indicate hM hn hN).mpr ?_
    refine (m_indicate (d := d + 11) hM.1 hw).mpr ?_
    rw [if_pos b1, if_neg b2]
    simp only [s_L_law_625, tl_some, tl_none, cv_int, cv_ref, cv_null, cv_long, cat_rf, jcv_nil, jcat_cons, jv_none, jv_int, jv_ref, jv_null, jw_rf, rf_some, rf_none, bz_0, bz_1, i1_0, i0_0, if_true, if_false, ite_self, List.nil_append, List.cons_append, Nat.reduceAdd, Nat.reduceLeDiff, Nat.zero_le, Nat.le_refl, and_self, and_true, true_and, not_true_eq_false, not_false_eq_true, reduceIte]
    exact K.to h0 r1 r2.ny r3 (hZ.at rfl (fun κ j hκ hj => by unfold cdA; rw [upA_ap, if_neg (fun q => by have := (nI_range (b1.1).1 (by rw [← hw.1.1]; exact (b1.1).2) (by have := hw.1.2; omega)).2; omega), upA_ap, if_neg (fun q => by omega)])) (hZ1.at rfl (fun _ => rfl)) (hD.at (gle_rf g) rfl rfl) rfl (by omega)
theorem bef_line (h : Lo sv a m sc out N S ω t g I J P A T tb ub st) (hn : n + 3 < N) (hN : N < 100000) : Ev sv (d + 14) (110, 177, [some (.ref sc), some (.ref a), some (.ref m), some (.ref out), some (.int (nI n)), l5, l6], []) (tv t u g I J P) Q ↔ Ev sv (d + 13) (13, 0, [some (.ref a), some (.int (S (n + 1))), some (.int (S (n + 2))), some (.int (if S (n + 3) = 0 then 0 else 1)), none, none], []) (tv t u g I J P) (fun r M1 => Ev sv (d + 14) (110, 207, [some (.ref sc), some (.ref a), some (.ref m), some (.ref out), some (.int (nI n)), l5, l6], r.toList ++ []) M1 Q) := by
  obtain ⟨⟨hR, -⟩, -, ha, ⟨s1, s2, s3⟩, -⟩ := h
  have c1 := hR.1.1
  rw [ha] at c1
  have j1 : jin (nI (n + 1)) N = true := jin_nI (by omega) (by omega)
  have j2 : jin (nI (n + 2)) N = true := jin_nI (by omega) (by omega)
  have j3 : jin (nI (n + 3)) N = true := jin_nI (by omega) (by omega)
  have e1 : nI n + 1 = nI (n + 1) := nI_add n 1
  have e2 : nI n + 2 = nI (n + 2) := nI_add n 2
  have e3 : nI n + 3 = nI (n + 3) := nI_add n 3
  have q1 : (nI (n + 1)).toNatClampNeg = n + 1 := nI_clamp (by omega)
  have q2 : (nI (n + 2)).toNatClampNeg = n + 2 := nI_clamp (by omega)
  have q3 : (nI (n + 3)).toNatClampNeg = n + 3 := nI_clamp (by omega)
  by_cases z0 : S (n + 3) = 0
  · simp only [s_L_law_177, s_L_law_177n, s_L_law_177z, s_L_law_178, s_L_law_178n, s_L_law_178z, s_L_law_179, s_L_law_181, s_L_law_182, s_L_law_183, s_L_law_184, s_L_law_184n, s_L_law_184z, s_L_law_185, s_L_law_187, s_L_law_188, s_L_law_189, s_L_law_190, s_L_law_190n, s_L_law_190z, s_L_law_191, s_L_law_193, s_L_law_194, s_L_law_195, s_L_law_196, s_L_law_199, s_L_law_200, s_L_law_203, s_L_law_204, tl_some, tl_none, cv_int, cv_ref, cv_null, cv_long, cat_rf, jcv_nil, jcat_cons, jv_none, jv_int, jv_ref, jv_null, jw_rf, rf_some, rf_none, bz_0, bz_1, i1_0, i0_0, if_true, if_false, ite_self, List.nil_append, List.cons_append, Nat.reduceAdd, Nat.reduceLeDiff, Nat.zero_le, Nat.le_refl, and_self, and_true, true_and, not_true_eq_false, not_false_eq_true, reduceIte, c1, s1, s2, s3, j1, j2, j3, e1, e2, e3, q1, q2, q3, z0]
  · simp only [s_L_law_177, s_L_law_177n, s_L_law_177z, s_L_law_178, s_L_law_178n, s_L_law_178z, s_L_law_179, s_L_law_181, s_L_law_182, s_L_law_183, s_L_law_184, s_L_law_184n, s_L_law_184z, s_L_law_185, s_L_law_187, s_L_law_188, s_L_law_189, s_L_law_190, s_L_law_190n, s_L_law_190z, s_L_law_191, s_L_law_193, s_L_law_194, s_L_law_195, s_L_law_196, s_L_law_199, s_L_law_200, s_L_law_203, s_L_law_204, tl_some, tl_none, cv_int, cv_ref, cv_null, cv_long, cat_rf, jcv_nil, jcat_cons, jv_none, jv_int, jv_ref, jv_null, jw_rf, rf_some, rf_none, bz_0, bz_1, i1_0, i0_0, if_true, if_false, ite_self, List.nil_append, List.cons_append, Nat.reduceAdd, Nat.reduceLeDiff, Nat.zero_le, Nat.le_refl, and_self, and_true, true_and, not_true_eq_false, not_false_eq_true, reduceIte, c1, s1, s2, s3, j1, j2, j3, e1, e2, e3, q1, q2, q3, z0]
theorem aft_line (h : Md m sc N S g I J P A T) (hn : n + 3 < N) (hN : N < 100000) : Ev sv (d + 14) (110, 207, [some (.ref sc), l1, some (.ref m), l3, some (.int (nI n)), l5, l6], [.int v]) (tv t u g I J P) Q ↔ Ev sv (d + 13) (60, 0, [some (.ref m), some (.int (S (n + 1))), some (.int (S (n + 2))), some (.int (if S (n + 3) = 0 then 0 else 1))], []) (tv t u g (ovl I m A) (ovJ J m T) P) (fun r M1 => Ev sv (d + 14) (110, 237, [some (.ref sc), l1, some (.ref m), l3, some (.int (nI n)), l5, l6], r.toList ++ [.int v]) M1 Q) := by
  obtain ⟨hL, h1, h2, s1, s2, s3⟩ := h
  have c1 := hL.1
  rw [h1, h2]
  have j1 : jin (nI (n + 1)) N = true := jin_nI (by omega) (by omega)
  have j2 : jin (nI (n + 2)) N = true := jin_nI (by omega) (by omega)
  have j3 : jin (nI (n + 3)) N = true := jin_nI (by omega) (by omega)
  have e1 : nI n + 1 = nI (n + 1) := nI_add n 1
  have e2 : nI n + 2 = nI (n + 2) := nI_add n 2
  have e3 : nI n + 3 = nI (n + 3) := nI_add n 3
  have q1 : (nI (n + 1)).toNatClampNeg = n + 1 := nI_clamp (by omega)
  have q2 : (nI (n + 2)).toNatClampNeg = n + 2 := nI_clamp (by omega)
  have q3 : (nI (n + 3)).toNatClampNeg = n + 3 := nI_clamp (by omega)
  by_cases z0 : S (n + 3) = 0
  · simp only [s_L_law_207, s_L_law_207n, s_L_law_207z, s_L_law_208, s_L_law_208n, s_L_law_208z, s_L_law_209, s_L_law_211, s_L_law_212, s_L_law_213, s_L_law_214, s_L_law_214n, s_L_law_214z, s_L_law_215, s_L_law_217, s_L_law_218, s_L_law_219, s_L_law_220, s_L_law_220n, s_L_law_220z, s_L_law_221, s_L_law_223, s_L_law_224, s_L_law_225, s_L_law_226, s_L_law_229, s_L_law_230, s_L_law_233, s_L_law_234, tl_some, tl_none, cv_int, cv_ref, cv_null, cv_long, cat_rf, jcv_nil, jcat_cons, jv_none, jv_int, jv_ref, jv_null, jw_rf, rf_some, rf_none, bz_0, bz_1, i1_0, i0_0, if_true, if_false, ite_self, List.nil_append, List.cons_append, Nat.reduceAdd, Nat.reduceLeDiff, Nat.zero_le, Nat.le_refl, and_self, and_true, true_and, not_true_eq_false, not_false_eq_true, reduceIte, c1, s1, s2, s3, j1, j2, j3, e1, e2, e3, q1, q2, q3, z0]
  · simp only [s_L_law_207, s_L_law_207n, s_L_law_207z, s_L_law_208, s_L_law_208n, s_L_law_208z, s_L_law_209, s_L_law_211, s_L_law_212, s_L_law_213, s_L_law_214, s_L_law_214n, s_L_law_214z, s_L_law_215, s_L_law_217, s_L_law_218, s_L_law_219, s_L_law_220, s_L_law_220n, s_L_law_220z, s_L_law_221, s_L_law_223, s_L_law_224, s_L_law_225, s_L_law_226, s_L_law_229, s_L_law_230, s_L_law_233, s_L_law_234, tl_some, tl_none, cv_int, cv_ref, cv_null, cv_long, cat_rf, jcv_nil, jcat_cons, jv_none, jv_int, jv_ref, jv_null, jw_rf, rf_some, rf_none, bz_0, bz_1, i1_0, i0_0, if_true, if_false, ite_self, List.nil_append, List.cons_append, Nat.reduceAdd, Nat.reduceLeDiff, Nat.zero_le, Nat.le_refl, and_self, and_true, true_and, not_true_eq_false, not_false_eq_true, reduceIte, c1, s1, s2, s3, j1, j2, j3, e1, e2, e3, q1, q2, q3, z0]
theorem law_line (h : Lo sv a m sc out N S ω t g I J P A T tb ub st) (hn : n + 3 < N) (hN : N < 100000) (K : LK sv d Q a m sc out N n S t u tb ub st) : Ev sv (d + 14) (110, 177, [some (.ref sc), some (.ref a), some (.ref m), some (.ref out), some (.int (nI n)), l5, l6], []) (tv t u g I J P) Q := by
  refine (bef_line h hn hN).mpr ?_
  have h0 := h
  obtain ⟨⟨hR, hV, hZ, hZ1, hD⟩, ⟨hL, -⟩, ha, -⟩ := h
  subst ha
  have hw := hR.2.2.2.2.2.2.2.1
  have hl : LnA A := hR.2.2.2.2.2.2.2.2.1
  have hz : bz (if S (n + 3) = 0 then (0 : Int32) else 1) := by
    by_cases z0 : S (n + 3) = 0
    · rw [if_pos z0]; exact bz_0
    · rw [if_neg z0]; exact bz_1
  have hl7 : ∀ (z : Int32) j, linA A (S (n + 1)).toNatClampNeg (S (n + 2)) z 7 j = cdA A 7 j := fun z j => by
    unfold linA
    rw [upA_ap, if_neg (fun q => absurd q.1 (by decide))]
    split
    · rw [upA_ap, if_neg (fun q => absurd q.1 (by decide)), upA_ap, if_neg (fun q => absurd q.1 (by decide))]
    · rw [upA_ap, if_neg (fun q => absurd q.1 (by decide))]
  have hl75 : ∀ (z : Int32) j, linA A (S (n + 1)).toNatClampNeg (S (n + 2)) z 75 j = A 75 j := fun z j => by
    unfold linA cdA
    rw [upA_ap, if_neg (fun q => absurd q.1 (by decide))]
    split
    · rw [upA_ap, if_neg (fun q => absurd q.1 (by decide)), upA_ap, if_neg (fun q => absurd q.1 (by decide)), upA_ap, if_neg (fun q => absurd q.1 (by decide))]
    · rw [upA_ap, if_neg (fun q => absurd q.1 (by decide)), upA_ap, if_neg (fun q => absurd q.1 (by decide))]
  have hlo : isG A (S (n + 1)) → ∀ (z : Int32) κ j, κ = 68 ∨ κ = 71 ∨ κ = 72 → ngA A < j → linA A (S (n + 1)).toNatClampNeg (S (n + 2)) z κ j = A κ j := fun b1 z κ j hκ hj => by
    have hr := (nI_range b1.1 (by rw [← hw.1.1]; exact b1.2) (by have := hw.1.2; omega)).2
    unfold linA cdA
    rw [upA_ap, if_neg (fun q => by omega)]
    split
    · rw [upA_ap, if_neg (fun q => by omega), upA_ap, if_neg (fun q => by omega), upA_ap, if_neg (fun q => by omega)]
    · rw [upA_ap, if_neg (fun q => by omega), upA_ap, if_neg (fun q => by omega)]
  refine c_line (d := d + 9) hR hV hz (fun b1 => ?_) (fun b1 b2 => ?_) (fun b1 b2 b3 => ?_) (fun b1 b2 b3 b4 => ?_) (fun b1 b2 b3 b4 b5 => ?_) (fun b1 b2 b3 b4 b5 I' r1 r2 r3 => ?_)
  · have hM := h0.md (Ny.rf (tb := tb) (ub := ub) (t := t) (u := u))
    refine (aft_line hM hn hN).mpr ?_
    refine (m_line (d := d + 12) hM.1 hw).mpr ?_
    rw [if_pos b1]
    simp only [s_L_law_237, tl_some, tl_none, cv_int, cv_ref, cv_null, cv_long, cat_rf, jcv_nil, jcat_cons, jv_none, jv_int, jv_ref, jv_null, jw_rf, rf_some, rf_none, bz_0, bz_1, i1_0, i0_0, if_true, if_false, ite_self, List.nil_append, List.cons_append, Nat.reduceAdd, Nat.reduceLeDiff, Nat.zero_le, Nat.le_refl, and_self, and_true, true_and, not_true_eq_false, not_false_eq_true, reduceIte]
    exact K.cd h0
  · have hM := h0.md (Ny.rf (tb := tb) (ub := ub) (t := t) (u := u))
    refine (aft_line hM hn hN).mpr ?_
    refine (m_line (d := d + 12) hM.1 hw).mpr ?_
    rw [if_neg (fun q => q b1), if_pos b2]
    simp only [s_L_law_237, tl_some, tl_none, cv_int, cv_ref, cv_null, cv_long, cat_rf, jcv_nil, jcat_cons, jv_none, jv_int, jv_ref, jv_null, jw_rf, rf_some, rf_none, bz_0, bz_1, i1_0, i0_0, if_true, if_false, ite_self, List.nil_append, List.cons_append, Nat.reduceAdd, Nat.reduceLeDiff, Nat.zero_le, Nat.le_refl, and_self, and_true, true_and, not_true_eq_false, not_false_eq_true, reduceIte]
    exact K.cd h0
  · have hM := h0.md (Ny.rf (tb := tb) (ub := ub) (t := t) (u := u))
    refine (aft_line hM hn hN).mpr ?_
    refine (m_line (d := d + 12) hM.1 hw).mpr ?_
    rw [if_neg (fun q => q b1), if_neg b2, if_pos b3]
    simp only [s_L_law_237, tl_some, tl_none, cv_int, cv_ref, cv_null, cv_long, cat_rf, jcv_nil, jcat_cons, jv_none, jv_int, jv_ref, jv_null, jw_rf, rf_some, rf_none, bz_0, bz_1, i1_0, i0_0, if_true, if_false, ite_self, List.nil_append, List.cons_append, Nat.reduceAdd, Nat.reduceLeDiff, Nat.zero_le, Nat.le_refl, and_self, and_true, true_and, not_true_eq_false, not_false_eq_true, reduceIte]
    exact K.cd h0
  · have hM := h0.md (Ny.rf (tb := tb) (ub := ub) (t := t) (u := u))
    refine (aft_line hM hn hN).mpr ?_
    refine (m_line (d := d + 12) hM.1 hw).mpr ?_
    rw [if_neg (fun q => q b1), if_neg b2, if_neg (fun q => q b3), if_pos b4]
    simp only [s_L_law_237, tl_some, tl_none, cv_int, cv_ref, cv_null, cv_long, cat_rf, jcv_nil, jcat_cons, jv_none, jv_int, jv_ref, jv_null, jw_rf, rf_some, rf_none, bz_0, bz_1, i1_0, i0_0, if_true, if_false, ite_self, List.nil_append, List.cons_append, Nat.reduceAdd, Nat.reduceLeDiff, Nat.zero_le, Nat.le_refl, and_self, and_true, true_and, not_true_eq_false, not_false_eq_true, reduceIte]
    exact K.cd h0
  · have hM := h0.md (Ny.rf (tb := tb) (ub := ub) (t := t) (u := u))
    refine (aft_line hM hn hN).mpr ?_
    refine (m_line (d := d + 12) hM.1 hw).mpr ?_
    rw [if_neg (fun q => q b1), if_neg b2, if_neg (fun q => q b3), if_neg b4, if_pos b5]
    simp only [s_L_law_237, tl_some, tl_none, cv_int, cv_ref, cv_null, cv_long, cat_rf, jcv_nil, jcat_cons, jv_none, jv_int, jv_ref, jv_null, jw_rf, rf_some, rf_none, bz_0, bz_1, i1_0, i0_0, if_true, if_false, ite_self, List.nil_append, List.cons_append, Nat.reduceAdd, Nat.reduceLeDiff, Nat.zero_le, Nat.le_refl, and_self, and_true, true_and, not_true_eq_false, not_false_eq_true, reduceIte]
    exact K.cd h0
  · have hM := h0.md (r2.ny)
    refine (aft_line hM hn hN).mpr ?_
    refine (m_line (d := d + 12) hM.1 hw).mpr ?_
    rw [if_neg (fun q => q b1), if_neg b2, if_neg (fun q => q b3), if_neg b4, if_neg (fun q => q b5)]
    simp only [s_L_law_237, tl_some, tl_none, cv_int, cv_ref, cv_null, cv_long, cat_rf, jcv_nil, jcat_cons, jv_none, jv_int, jv_ref, jv_null, jw_rf, rf_some, rf_none, bz_0, bz_1, i1_0, i0_0, if_true, if_false, ite_self, List.nil_append, List.cons_append, Nat.reduceAdd, Nat.reduceLeDiff, Nat.zero_le, Nat.le_refl, and_self, and_true, true_and, not_true_eq_false, not_false_eq_true, reduceIte]
    exact K.to h0 r1 r2.ny r3 (hZ.at (by unfold ngA; rw [hl7 _ 5]; rfl) (fun κ j hκ hj => by rw [hlo b1 _ κ j hκ hj])) (hZ1.at ((hl7 _ 6).trans rfl) (fun j => by rw [hl75 _ j])) (hD.at (gle_rf g) ((hl7 _ 5).trans rfl) ((hl7 _ 6).trans rfl)) rfl (by omega)
end
