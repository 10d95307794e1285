-- ===== the law: its own cells (laid by wip/gen/gen58.py) =====
/-- class and reference, side by side in one memory -/
def Lo (sv : Nat → Value) (a m sc out N : Nat) (S : Nat → Int32) (ω : Wd) (t : Nat) (g : jG) (I : tI) (J : tJ) (P : tP) (A : Nat → Nat → Int32) (T : Nat → Int64) (tb ub st : Nat) : Prop := (Rel sv ω t g I J P A T tb ub ∧ Inv ω I A st ∧ Z0 A ∧ Z1 A ∧ Dg ω g A) ∧ (MLay g P m ∧ ovl I m A = I ∧ ovJ J m T = J) ∧ (ω.1 0 = a ∧ (jt g sc = some 94 ∧ jn g sc = N ∧ ∀ k, I 94 k sc = S k) ∧ jt g out = some 79 ∧ jn g out = 1)
/-- between the two calls -/
def Md (m sc N : Nat) (S : Nat → Int32) (g : jG) (I : tI) (J : tJ) (P : tP) (A : Nat → Nat → Int32) (T : Nat → Int64) : Prop := MLay g P m ∧ ovl I m A = I ∧ ovJ J m T = J ∧ jt g sc = some 94 ∧ jn g sc = N ∧ ∀ k, I 94 k sc = S k

section
variable {sv : Nat → Value} {d t u : Nat} {Q : Option Value → jM → Prop} {g : jG} {I : tI} {J : tJ} {P : tP} {A : Nat → Nat → Int32} {T : Nat → Int64} {ω : Wd} {tb ub st a m sc out N n : Nat} {S : Nat → Int32} {l1 l3 l5 l6 : Option Value} {v : Int32} {V : Int64}

theorem Ny.rf : Ny t u g I J P tb ub t u g I J P tb ub := ⟨gle_rf g, fun _ _ => ⟨rfl, rfl, rfl⟩, Nat.le_refl _, Nat.le_refl _, by omega, by omega⟩
theorem Lo.md {t' u' : Nat} {g' : jG} {I' : tI} {J' : tJ} {P' : tP} {tb' ub' : Nat} (h : Lo sv a m sc out N S ω t g I J P A T tb ub st) (hN : Ny t u g I J P tb ub t' u' g' I' J' P' tb' ub') : Md m sc N S g' I' J' P' A T := by
  obtain ⟨-, ⟨h1, h2, h3⟩, -, ⟨s1, s2, s3⟩, -⟩ := h
  refine ⟨h1.env hN.1 (hN.2.1 7 (Or.inl rfl)).2.2, ovl_keep (I := I) (fun κ hκ => ?_), ovJ_keep (J := J) (fun κ hκ => ?_), (hN.1 _ _ s1).1, by rw [(hN.1 _ _ s1).2]; exact s2, fun k => ?_⟩
  · rw [h2]
    exact (hN.2.1 κ hκ).1
  · rw [h3]
    exact (hN.2.1 κ hκ).2.1
  · rw [(hN.2.1 94 (Or.inr (by decide))).1]
    exact s3 k
theorem Lo.go {ω' : Wd} {t' u' : Nat} {g' : jG} {I' : tI} {J' : tJ} {P' : tP} {A' : Nat → Nat → Int32} {T' : Nat → Int64} {tb' ub' st' : Nat} (h : Lo sv a m sc out N S ω t g I J P A T tb ub st) (hR : Rel sv ω' t' g' I' J' P' A' T' tb' ub') (hN : Ny t u g I J P tb ub t' u' g' I' J' P' tb' ub') (hV : Inv ω' I' A' st') (hZ : Z0 A') (hZ1 : Z1 A') (hD : Dg ω' g' A') (hw : ω'.1 = ω.1) : Lo sv a m sc out N S ω' t' g' (ovl I' m A') (ovJ J' m T') P' A' T' tb' ub' st' := by
  obtain ⟨-, ⟨h1, h2, h3⟩, h4, ⟨s1, s2, s3⟩, o1, o2⟩ := h
  refine ⟨⟨hR.env (gle_rf g') hR.2.2.2.2.2.2.1 (fun κ k1 k2 => ⟨ovl_lo k1 k2, ovJ_lo k1, rfl⟩), hV.env (ovl_lo (by decide) (by decide)) (ovl_lo (by decide) (by decide)), hZ, hZ1, hD⟩, ⟨h1.env hN.1 (hN.2.1 7 (Or.inl rfl)).2.2, ovl_self (fun κ k hκ => ovl_r hκ), ovJ_self (fun k => if_pos ⟨rfl, rfl⟩)⟩, by rw [hw]; exact h4, ⟨(hN.1 _ _ s1).1, by rw [(hN.1 _ _ s1).2]; exact s2, fun k => ?_⟩, (hN.1 _ _ o1).1, by rw [(hN.1 _ _ o1).2]; exact o2⟩
  have e : ovl I' m A' 94 k sc = I' 94 k sc := if_neg (fun q => absurd q.1 (by decide))
  rw [e, (hN.2.1 94 (Or.inr (by decide))).1]
  exact s3 k
theorem Lo.cd (h : Lo sv a m sc out N S ω t g I J P A T tb ub st) : Lo sv a m sc out N S ω t g (ovl I m (cdA A)) (ovJ J m T) P (cdA A) T tb ub st := h.go (u := 0) (u' := 0) h.1.1.cd Ny.rf h.1.2.1.cd (h.1.2.2.1.kp (cdA_zk A) (cdA_fr A).fs) (h.1.2.2.2.1.kp (cdA_fr A).fs) (h.1.2.2.2.2.kp (gle_rf g) (cdA_fr A).fs) rfl

theorem bef_group (h : Lo sv a m sc out N S ω t g I J P A T tb ub st) (hn : n + 3 < N) (hN : N < 100000) : Ev sv (d + 14) (110, 140, [some (.ref sc), some (.ref a), some (.ref m), some (.ref out), some (.int (nI n)), l5, l6], []) (tv t u g I J P) Q ↔ Ev sv (d + 13) (12, 0, [some (.ref a), some (.int (S (n + 1))), some (.int (S (n + 2))), none], []) (tv t u g I J P) (fun r M1 => Ev sv (d + 14) (110, 156, [some (.ref sc), some (.ref a), some (.ref m), some (.ref out), some (.int (nI n)), l5, l6], r.toList ++ []) M1 Q) := by
  obtain ⟨⟨hR, -⟩, -, ha, ⟨s1, s2, s3⟩, -⟩ := h
  have c1 := hR.1.1
  rw [ha] at c1
  have j1 : jin (nI (n + 1)) N = true := jin_nI (by omega) (by omega)
  have j2 : jin (nI (n + 2)) N = true := jin_nI (by omega) (by omega)
  have j3 : jin (nI (n + 3)) N = true := jin_nI (by omega) (by omega)
  have e1 : nI n + 1 = nI (n + 1) := nI_add n 1
  have e2 : nI n + 2 = nI (n + 2) := nI_add n 2
  have e3 : nI n + 3 = nI (n + 3) := nI_add n 3
  have q1 : (nI (n + 1)).toNatClampNeg = n + 1 := nI_clamp (by omega)
  have q2 : (nI (n + 2)).toNatClampNeg = n + 2 := nI_clamp (by omega)
  have q3 : (nI (n + 3)).toNatClampNeg = n + 3 := nI_clamp (by omega)
  simp only [s_L_law_140, s_L_law_140n, s_L_law_140z, s_L_law_141, s_L_law_141n, s_L_law_141z, s_L_law_142, s_L_law_144, s_L_law_145, s_L_law_146, s_L_law_147, s_L_law_147n, s_L_law_147z, s_L_law_148, s_L_law_150, s_L_law_151, s_L_law_152, s_L_law_153, tl_some, tl_none, cv_int, cv_ref, cv_null, cv_long, cat_rf, jcv_nil, jcat_cons, jv_none, jv_int, jv_ref, jv_null, jw_rf, rf_some, rf_none, bz_0, bz_1, i1_0, i0_0, if_true, if_false, ite_self, List.nil_append, List.cons_append, Nat.reduceAdd, Nat.reduceLeDiff, Nat.zero_le, Nat.le_refl, and_self, and_true, true_and, not_true_eq_false, not_false_eq_true, reduceIte, c1, s1, s2, s3, j1, j2, j3, e1, e2, e3, q1, q2, q3]
theorem aft_group (h : Md m sc N S g I J P A T) (hn : n + 3 < N) (hN : N < 100000) : Ev sv (d + 14) (110, 156, [some (.ref sc), l1, some (.ref m), l3, some (.int (nI n)), l5, l6], [.int v]) (tv t u g I J P) Q ↔ Ev sv (d + 13) (58, 0, [some (.ref m), some (.int (S (n + 1))), some (.int (S (n + 2))), none], []) (tv t u g (ovl I m A) (ovJ J m T) P) (fun r M1 => Ev sv (d + 14) (110, 172, [some (.ref sc), l1, some (.ref m), l3, some (.int (nI n)), l5, l6], r.toList ++ [.int v]) M1 Q) := by
  obtain ⟨hL, h1, h2, s1, s2, s3⟩ := h
  have c1 := hL.1
  rw [h1, h2]
  have j1 : jin (nI (n + 1)) N = true := jin_nI (by omega) (by omega)
  have j2 : jin (nI (n + 2)) N = true := jin_nI (by omega) (by omega)
  have j3 : jin (nI (n + 3)) N = true := jin_nI (by omega) (by omega)
  have e1 : nI n + 1 = nI (n + 1) := nI_add n 1
  have e2 : nI n + 2 = nI (n + 2) := nI_add n 2
  have e3 : nI n + 3 = nI (n + 3) := nI_add n 3
  have q1 : (nI (n + 1)).toNatClampNeg = n + 1 := nI_clamp (by omega)
  have q2 : (nI (n + 2)).toNatClampNeg = n + 2 := nI_clamp (by omega)
  have q3 : (nI (n + 3)).toNatClampNeg = n + 3 := nI_clamp (by omega)
  simp only [s_L_law_156, s_L_law_156n, s_L_law_156z, s_L_law_157, s_L_law_157n, s_L_law_157z, s_L_law_158, s_L_law_160, s_L_law_161, s_L_law_162, s_L_law_163, s_L_law_163n, s_L_law_163z, s_L_law_164, s_L_law_166, s_L_law_167, s_L_law_168, s_L_law_169, tl_some, tl_none, cv_int, cv_ref, cv_null, cv_long, cat_rf, jcv_nil, jcat_cons, jv_none, jv_int, jv_ref, jv_null, jw_rf, rf_some, rf_none, bz_0, bz_1, i1_0, i0_0, if_true, if_false, ite_self, List.nil_append, List.cons_append, Nat.reduceAdd, Nat.reduceLeDiff, Nat.zero_le, Nat.le_refl, and_self, and_true, true_and, not_true_eq_false, not_false_eq_true, reduceIte, c1, s1, s2, s3, j1, j2, j3, e1, e2, e3, q1, q2, q3]
theorem bef_sum (h : Lo sv a m sc out N S ω t g I J P A T tb ub st) (hn : n + 3 < N) (hN : N < 100000) : Ev sv (d + 14) (110, 242, [some (.ref sc), some (.ref a), some (.ref m), some (.ref out), some (.int (nI n)), l5, l6], []) (tv t u g I J P) Q ↔ Ev sv (d + 13) (14, 0, [some (.ref a), some (.int (S (n + 1))), some (.int (S (n + 2))), some (.int (S (n + 3))), none], []) (tv t u g I J P) (fun r M1 => Ev sv (d + 14) (110, 264, [some (.ref sc), some (.ref a), some (.ref m), some (.ref out), some (.int (nI n)), l5, l6], r.toList ++ []) M1 Q) := by
  obtain ⟨⟨hR, -⟩, -, ha, ⟨s1, s2, s3⟩, -⟩ := h
  have c1 := hR.1.1
  rw [ha] at c1
  have j1 : jin (nI (n + 1)) N = true := jin_nI (by omega) (by omega)
  have j2 : jin (nI (n + 2)) N = true := jin_nI (by omega) (by omega)
  have j3 : jin (nI (n + 3)) N = true := jin_nI (by omega) (by omega)
  have e1 : nI n + 1 = nI (n + 1) := nI_add n 1
  have e2 : nI n + 2 = nI (n + 2) := nI_add n 2
  have e3 : nI n + 3 = nI (n + 3) := nI_add n 3
  have q1 : (nI (n + 1)).toNatClampNeg = n + 1 := nI_clamp (by omega)
  have q2 : (nI (n + 2)).toNatClampNeg = n + 2 := nI_clamp (by omega)
  have q3 : (nI (n + 3)).toNatClampNeg = n + 3 := nI_clamp (by omega)
  simp only [s_L_law_242, s_L_law_242n, s_L_law_242z, s_L_law_243, s_L_law_243n, s_L_law_243z, s_L_law_244, s_L_law_246, s_L_law_247, s_L_law_248, s_L_law_249, s_L_law_249n, s_L_law_249z, s_L_law_250, s_L_law_252, s_L_law_253, s_L_law_254, s_L_law_255, s_L_law_255n, s_L_law_255z, s_L_law_256, s_L_law_258, s_L_law_259, s_L_law_260, s_L_law_261, tl_some, tl_none, cv_int, cv_ref, cv_null, cv_long, cat_rf, jcv_nil, jcat_cons, jv_none, jv_int, jv_ref, jv_null, jw_rf, rf_some, rf_none, bz_0, bz_1, i1_0, i0_0, if_true, if_false, ite_self, List.nil_append, List.cons_append, Nat.reduceAdd, Nat.reduceLeDiff, Nat.zero_le, Nat.le_refl, and_self, and_true, true_and, not_true_eq_false, not_false_eq_true, reduceIte, c1, s1, s2, s3, j1, j2, j3, e1, e2, e3, q1, q2, q3]
theorem aft_sum (h : Md m sc N S g I J P A T) (hn : n + 3 < N) (hN : N < 100000) : Ev sv (d + 14) (110, 264, [some (.ref sc), l1, some (.ref m), l3, some (.int (nI n)), l5, l6], [.int v]) (tv t u g I J P) Q ↔ Ev sv (d + 13) (62, 0, [some (.ref m), some (.int (S (n + 1))), some (.int (S (n + 2))), some (.int (S (n + 3)))], []) (tv t u g (ovl I m A) (ovJ J m T) P) (fun r M1 => Ev sv (d + 14) (110, 286, [some (.ref sc), l1, some (.ref m), l3, some (.int (nI n)), l5, l6], r.toList ++ [.int v]) M1 Q) := by
  obtain ⟨hL, h1, h2, s1, s2, s3⟩ := h
  have c1 := hL.1
  rw [h1, h2]
  have j1 : jin (nI (n + 1)) N = true := jin_nI (by omega) (by omega)
  have j2 : jin (nI (n + 2)) N = true := jin_nI (by omega) (by omega)
  have j3 : jin (nI (n + 3)) N = true := jin_nI (by omega) (by omega)
  have e1 : nI n + 1 = nI (n + 1) := nI_add n 1
  have e2 : nI n + 2 = nI (n + 2) := nI_add n 2
  have e3 : nI n + 3 = nI (n + 3) := nI_add n 3
  have q1 : (nI (n + 1)).toNatClampNeg = n + 1 := nI_clamp (by omega)
  have q2 : (nI (n + 2)).toNatClampNeg = n + 2 := nI_clamp (by omega)
  have q3 : (nI (n + 3)).toNatClampNeg = n + 3 := nI_clamp (by omega)
  simp only [s_L_law_264, s_L_law_264n, s_L_law_264z, s_L_law_265, s_L_law_265n, s_L_law_265z, s_L_law_266, s_L_law_268, s_L_law_269, s_L_law_270, s_L_law_271, s_L_law_271n, s_L_law_271z, s_L_law_272, s_L_law_274, s_L_law_275, s_L_law_276, s_L_law_277, s_L_law_277n, s_L_law_277z, s_L_law_278, s_L_law_280, s_L_law_281, s_L_law_282, s_L_law_283, tl_some, tl_none, cv_int, cv_ref, cv_null, cv_long, cat_rf, jcv_nil, jcat_cons, jv_none, jv_int, jv_ref, jv_null, jw_rf, rf_some, rf_none, bz_0, bz_1, i1_0, i0_0, if_true, if_false, ite_self, List.nil_append, List.cons_append, Nat.reduceAdd, Nat.reduceLeDiff, Nat.zero_le, Nat.le_refl, and_self, and_true, true_and, not_true_eq_false, not_false_eq_true, reduceIte, c1, s1, s2, s3, j1, j2, j3, e1, e2, e3, q1, q2, q3]
theorem bef_control (h : Lo sv a m sc out N S ω t g I J P A T tb ub st) (hn : n + 3 < N) (hN : N < 100000) : Ev sv (d + 14) (110, 291, [some (.ref sc), some (.ref a), some (.ref m), some (.ref out), some (.int (nI n)), l5, l6], []) (tv t u g I J P) Q ↔ Ev sv (d + 13) (15, 0, [some (.ref a), some (.int (S (n + 1)))], []) (tv t u g I J P) (fun r M1 => Ev sv (d + 14) (110, 301, [some (.ref sc), some (.ref a), some (.ref m), some (.ref out), some (.int (nI n)), l5, l6], r.toList ++ []) M1 Q) := by
  obtain ⟨⟨hR, -⟩, -, ha, ⟨s1, s2, s3⟩, -⟩ := h
  have c1 := hR.1.1
  rw [ha] at c1
  have j1 : jin (nI (n + 1)) N = true := jin_nI (by omega) (by omega)
  have j2 : jin (nI (n + 2)) N = true := jin_nI (by omega) (by omega)
  have j3 : jin (nI (n + 3)) N = true := jin_nI (by omega) (by omega)
  have e1 : nI n + 1 = nI (n + 1) := nI_add n 1
  have e2 : nI n + 2 = nI (n + 2) := nI_add n 2
  have e3 : nI n + 3 = nI (n + 3) := nI_add n 3
  have q1 : (nI (n + 1)).toNatClampNeg = n + 1 := nI_clamp (by omega)
  have q2 : (nI (n + 2)).toNatClampNeg = n + 2 := nI_clamp (by omega)
  have q3 : (nI (n + 3)).toNatClampNeg = n + 3 := nI_clamp (by omega)
  simp only [s_L_law_291, s_L_law_291n, s_L_law_291z, s_L_law_292, s_L_law_292n, s_L_law_292z, s_L_law_293, s_L_law_295, s_L_law_296, s_L_law_297, s_L_law_298, tl_some, tl_none, cv_int, cv_ref, cv_null, cv_long, cat_rf, jcv_nil, jcat_cons, jv_none, jv_int, jv_ref, jv_null, jw_rf, rf_some, rf_none, bz_0, bz_1, i1_0, i0_0, if_true, if_false, ite_self, List.nil_append, List.cons_append, Nat.reduceAdd, Nat.reduceLeDiff, Nat.zero_le, Nat.le_refl, and_self, and_true, true_and, not_true_eq_false, not_false_eq_true, reduceIte, c1, s1, s2, s3, j1, j2, j3, e1, e2, e3, q1, q2, q3]
theorem aft_control (h : Md m sc N S g I J P A T) (hn : n + 3 < N) (hN : N < 100000) : Ev sv (d + 14) (110, 301, [some (.ref sc), l1, some (.ref m), l3, some (.int (nI n)), l5, l6], [.int v]) (tv t u g I J P) Q ↔ Ev sv (d + 13) (63, 0, [some (.ref m), some (.int (S (n + 1)))], []) (tv t u g (ovl I m A) (ovJ J m T) P) (fun r M1 => Ev sv (d + 14) (110, 311, [some (.ref sc), l1, some (.ref m), l3, some (.int (nI n)), l5, l6], r.toList ++ [.int v]) M1 Q) := by
  obtain ⟨hL, h1, h2, s1, s2, s3⟩ := h
  have c1 := hL.1
  rw [h1, h2]
  have j1 : jin (nI (n + 1)) N = true := jin_nI (by omega) (by omega)
  have j2 : jin (nI (n + 2)) N = true := jin_nI (by omega) (by omega)
  have j3 : jin (nI (n + 3)) N = true := jin_nI (by omega) (by omega)
  have e1 : nI n + 1 = nI (n + 1) := nI_add n 1
  have e2 : nI n + 2 = nI (n + 2) := nI_add n 2
  have e3 : nI n + 3 = nI (n + 3) := nI_add n 3
  have q1 : (nI (n + 1)).toNatClampNeg = n + 1 := nI_clamp (by omega)
  have q2 : (nI (n + 2)).toNatClampNeg = n + 2 := nI_clamp (by omega)
  have q3 : (nI (n + 3)).toNatClampNeg = n + 3 := nI_clamp (by omega)
  simp only [s_L_law_301, s_L_law_301n, s_L_law_301z, s_L_law_302, s_L_law_302n, s_L_law_302z, s_L_law_303, s_L_law_305, s_L_law_306, s_L_law_307, s_L_law_308, tl_some, tl_none, cv_int, cv_ref, cv_null, cv_long, cat_rf, jcv_nil, jcat_cons, jv_none, jv_int, jv_ref, jv_null, jw_rf, rf_some, rf_none, bz_0, bz_1, i1_0, i0_0, if_true, if_false, ite_self, List.nil_append, List.cons_append, Nat.reduceAdd, Nat.reduceLeDiff, Nat.zero_le, Nat.le_refl, and_self, and_true, true_and, not_true_eq_false, not_false_eq_true, reduceIte, c1, s1, s2, s3, j1, j2, j3, e1, e2, e3, q1, q2, q3]
theorem bef_set (h : Lo sv a m sc out N S ω t g I J P A T tb ub st) (hn : n + 3 < N) (hN : N < 100000) : Ev sv (d + 14) (110, 316, [some (.ref sc), some (.ref a), some (.ref m), some (.ref out), some (.int (nI n)), l5, l6], []) (tv t u g I J P) Q ↔ Ev sv (d + 13) (16, 0, [some (.ref a), some (.int (S (n + 1))), some (.int (S (n + 2))), none], []) (tv t u g I J P) (fun r M1 => Ev sv (d + 14) (110, 332, [some (.ref sc), some (.ref a), some (.ref m), some (.ref out), some (.int (nI n)), l5, l6], r.toList ++ []) M1 Q) := by
  obtain ⟨⟨hR, -⟩, -, ha, ⟨s1, s2, s3⟩, -⟩ := h
  have c1 := hR.1.1
  rw [ha] at c1
  have j1 : jin (nI (n + 1)) N = true := jin_nI (by omega) (by omega)
  have j2 : jin (nI (n + 2)) N = true := jin_nI (by omega) (by omega)
  have j3 : jin (nI (n + 3)) N = true := jin_nI (by omega) (by omega)
  have e1 : nI n + 1 = nI (n + 1) := nI_add n 1
  have e2 : nI n + 2 = nI (n + 2) := nI_add n 2
  have e3 : nI n + 3 = nI (n + 3) := nI_add n 3
  have q1 : (nI (n + 1)).toNatClampNeg = n + 1 := nI_clamp (by omega)
  have q2 : (nI (n + 2)).toNatClampNeg = n + 2 := nI_clamp (by omega)
  have q3 : (nI (n + 3)).toNatClampNeg = n + 3 := nI_clamp (by omega)
  simp only [s_L_law_316, s_L_law_316n, s_L_law_316z, s_L_law_317, s_L_law_317n, s_L_law_317z, s_L_law_318, s_L_law_320, s_L_law_321, s_L_law_322, s_L_law_323, s_L_law_323n, s_L_law_323z, s_L_law_324, s_L_law_326, s_L_law_327, s_L_law_328, s_L_law_329, tl_some, tl_none, cv_int, cv_ref, cv_null, cv_long, cat_rf, jcv_nil, jcat_cons, jv_none, jv_int, jv_ref, jv_null, jw_rf, rf_some, rf_none, bz_0, bz_1, i1_0, i0_0, if_true, if_false, ite_self, List.nil_append, List.cons_append, Nat.reduceAdd, Nat.reduceLeDiff, Nat.zero_le, Nat.le_refl, and_self, and_true, true_and, not_true_eq_false, not_false_eq_true, reduceIte, c1, s1, s2, s3, j1, j2, j3, e1, e2, e3, q1, q2, q3]
theorem aft_set (h : Md m sc N S g I J P A T) (hn : n + 3 < N) (hN : N < 100000) : Ev sv (d + 14) (110, 332, [some (.ref sc), l1, some (.ref m), l3, some (.int (nI n)), l5, l6], [.int v]) (tv t u g I J P) Q ↔ Ev sv (d + 13) (64, 0, [some (.ref m), some (.int (S (n + 1))), some (.int (S (n + 2))), none], []) (tv t u g (ovl I m A) (ovJ J m T) P) (fun r M1 => Ev sv (d + 14) (110, 348, [some (.ref sc), l1, some (.ref m), l3, some (.int (nI n)), l5, l6], r.toList ++ [.int v]) M1 Q) := by
  obtain ⟨hL, h1, h2, s1, s2, s3⟩ := h
  have c1 := hL.1
  rw [h1, h2]
  have j1 : jin (nI (n + 1)) N = true := jin_nI (by omega) (by omega)
  have j2 : jin (nI (n + 2)) N = true := jin_nI (by omega) (by omega)
  have j3 : jin (nI (n + 3)) N = true := jin_nI (by omega) (by omega)
  have e1 : nI n + 1 = nI (n + 1) := nI_add n 1
  have e2 : nI n + 2 = nI (n + 2) := nI_add n 2
  have e3 : nI n + 3 = nI (n + 3) := nI_add n 3
  have q1 : (nI (n + 1)).toNatClampNeg = n + 1 := nI_clamp (by omega)
  have q2 : (nI (n + 2)).toNatClampNeg = n + 2 := nI_clamp (by omega)
  have q3 : (nI (n + 3)).toNatClampNeg = n + 3 := nI_clamp (by omega)
  simp only [s_L_law_332, s_L_law_332n, s_L_law_332z, s_L_law_333, s_L_law_333n, s_L_law_333z, s_L_law_334, s_L_law_336, s_L_law_337, s_L_law_338, s_L_law_339, s_L_law_339n, s_L_law_339z, s_L_law_340, s_L_law_342, s_L_law_343, s_L_law_344, s_L_law_345, tl_some, tl_none, cv_int, cv_ref, cv_null, cv_long, cat_rf, jcv_nil, jcat_cons, jv_none, jv_int, jv_ref, jv_null, jw_rf, rf_some, rf_none, bz_0, bz_1, i1_0, i0_0, if_true, if_false, ite_self, List.nil_append, List.cons_append, Nat.reduceAdd, Nat.reduceLeDiff, Nat.zero_le, Nat.le_refl, and_self, and_true, true_and, not_true_eq_false, not_false_eq_true, reduceIte, c1, s1, s2, s3, j1, j2, j3, e1, e2, e3, q1, q2, q3]
theorem bef_initiate (h : Lo sv a m sc out N S ω t g I J P A T tb ub st) (hn : n + 3 < N) (hN : N < 100000) : Ev sv (d + 14) (110, 353, [some (.ref sc), some (.ref a), some (.ref m), some (.ref out), some (.int (nI n)), l5, l6], []) (tv t u g I J P) Q ↔ Ev sv (d + 13) (17, 0, [some (.ref a), none], []) (tv t u g I J P) (fun r M1 => Ev sv (d + 14) (110, 357, [some (.ref sc), some (.ref a), some (.ref m), some (.ref out), some (.int (nI n)), l5, l6], r.toList ++ []) M1 Q) := by
  obtain ⟨⟨hR, -⟩, -, ha, ⟨s1, s2, s3⟩, -⟩ := h
  have c1 := hR.1.1
  rw [ha] at c1
  have j1 : jin (nI (n + 1)) N = true := jin_nI (by omega) (by omega)
  have j2 : jin (nI (n + 2)) N = true := jin_nI (by omega) (by omega)
  have j3 : jin (nI (n + 3)) N = true := jin_nI (by omega) (by omega)
  have e1 : nI n + 1 = nI (n + 1) := nI_add n 1
  have e2 : nI n + 2 = nI (n + 2) := nI_add n 2
  have e3 : nI n + 3 = nI (n + 3) := nI_add n 3
  have q1 : (nI (n + 1)).toNatClampNeg = n + 1 := nI_clamp (by omega)
  have q2 : (nI (n + 2)).toNatClampNeg = n + 2 := nI_clamp (by omega)
  have q3 : (nI (n + 3)).toNatClampNeg = n + 3 := nI_clamp (by omega)
  simp only [s_L_law_353, s_L_law_353n, s_L_law_353z, s_L_law_354, tl_some, tl_none, cv_int, cv_ref, cv_null, cv_long, cat_rf, jcv_nil, jcat_cons, jv_none, jv_int, jv_ref, jv_null, jw_rf, rf_some, rf_none, bz_0, bz_1, i1_0, i0_0, if_true, if_false, ite_self, List.nil_append, List.cons_append, Nat.reduceAdd, Nat.reduceLeDiff, Nat.zero_le, Nat.le_refl, and_self, and_true, true_and, not_true_eq_false, not_false_eq_true, reduceIte, c1, s1, s2, s3, j1, j2, j3, e1, e2, e3, q1, q2, q3]
theorem aft_initiate (h : Md m sc N S g I J P A T) (hn : n + 3 < N) (hN : N < 100000) : Ev sv (d + 14) (110, 357, [some (.ref sc), l1, some (.ref m), l3, some (.int (nI n)), l5, l6], [.int v]) (tv t u g I J P) Q ↔ Ev sv (d + 13) (81, 0, [some (.ref m), none], []) (tv t u g (ovl I m A) (ovJ J m T) P) (fun r M1 => Ev sv (d + 14) (110, 361, [some (.ref sc), l1, some (.ref m), l3, some (.int (nI n)), l5, l6], r.toList ++ [.int v]) M1 Q) := by
  obtain ⟨hL, h1, h2, s1, s2, s3⟩ := h
  have c1 := hL.1
  rw [h1, h2]
  have j1 : jin (nI (n + 1)) N = true := jin_nI (by omega) (by omega)
  have j2 : jin (nI (n + 2)) N = true := jin_nI (by omega) (by omega)
  have j3 : jin (nI (n + 3)) N = true := jin_nI (by omega) (by omega)
  have e1 : nI n + 1 = nI (n + 1) := nI_add n 1
  have e2 : nI n + 2 = nI (n + 2) := nI_add n 2
  have e3 : nI n + 3 = nI (n + 3) := nI_add n 3
  have q1 : (nI (n + 1)).toNatClampNeg = n + 1 := nI_clamp (by omega)
  have q2 : (nI (n + 2)).toNatClampNeg = n + 2 := nI_clamp (by omega)
  have q3 : (nI (n + 3)).toNatClampNeg = n + 3 := nI_clamp (by omega)
  simp only [s_L_law_357, s_L_law_357n, s_L_law_357z, s_L_law_358, tl_some, tl_none, cv_int, cv_ref, cv_null, cv_long, cat_rf, jcv_nil, jcat_cons, jv_none, jv_int, jv_ref, jv_null, jw_rf, rf_some, rf_none, bz_0, bz_1, i1_0, i0_0, if_true, if_false, ite_self, List.nil_append, List.cons_append, Nat.reduceAdd, Nat.reduceLeDiff, Nat.zero_le, Nat.le_refl, and_self, and_true, true_and, not_true_eq_false, not_false_eq_true, reduceIte, c1, s1, s2, s3, j1, j2, j3, e1, e2, e3, q1, q2, q3]
theorem bef_generate (h : Lo sv a m sc out N S ω t g I J P A T tb ub st) (hn : n + 3 < N) (hN : N < 100000) : Ev sv (d + 14) (110, 366, [some (.ref sc), some (.ref a), some (.ref m), some (.ref out), some (.int (nI n)), l5, l6], []) (tv t u g I J P) Q ↔ Ev sv (d + 13) (18, 0, [some (.ref a), some (.int (S (n + 1))), some (.long (((S (n + 2)).toInt64 <<< ((32 : Int32).toInt64 &&& 63)) ||| ((S (n + 3)).toInt64 &&& 4294967295))), none, none, none, none], []) (tv t u g I J P) (fun r M1 => Ev sv (d + 14) (110, 398, [some (.ref sc), some (.ref a), some (.ref m), some (.ref out), some (.int (nI n)), l5, l6], r.toList ++ []) M1 Q) := by
  obtain ⟨⟨hR, -⟩, -, ha, ⟨s1, s2, s3⟩, -⟩ := h
  have c1 := hR.1.1
  rw [ha] at c1
  have j1 : jin (nI (n + 1)) N = true := jin_nI (by omega) (by omega)
  have j2 : jin (nI (n + 2)) N = true := jin_nI (by omega) (by omega)
  have j3 : jin (nI (n + 3)) N = true := jin_nI (by omega) (by omega)
  have e1 : nI n + 1 = nI (n + 1) := nI_add n 1
  have e2 : nI n + 2 = nI (n + 2) := nI_add n 2
  have e3 : nI n + 3 = nI (n + 3) := nI_add n 3
  have q1 : (nI (n + 1)).toNatClampNeg = n + 1 := nI_clamp (by omega)
  have q2 : (nI (n + 2)).toNatClampNeg = n + 2 := nI_clamp (by omega)
  have q3 : (nI (n + 3)).toNatClampNeg = n + 3 := nI_clamp (by omega)
  simp only [s_L_law_366, s_L_law_366n, s_L_law_366z, s_L_law_367, s_L_law_367n, s_L_law_367z, s_L_law_368, s_L_law_370, s_L_law_371, s_L_law_372, s_L_law_373, s_L_law_373n, s_L_law_373z, s_L_law_374, s_L_law_376, s_L_law_377, s_L_law_378, s_L_law_379, s_L_law_380, s_L_law_382, s_L_law_383, s_L_law_383n, s_L_law_383z, s_L_law_384, s_L_law_386, s_L_law_387, s_L_law_388, s_L_law_389, s_L_law_390, s_L_law_393, s_L_law_394, s_L_law_395, tl_some, tl_none, cv_int, cv_ref, cv_null, cv_long, cat_rf, jcv_nil, jcat_cons, jv_none, jv_int, jv_ref, jv_null, jw_rf, rf_some, rf_none, bz_0, bz_1, i1_0, i0_0, if_true, if_false, ite_self, List.nil_append, List.cons_append, Nat.reduceAdd, Nat.reduceLeDiff, Nat.zero_le, Nat.le_refl, and_self, and_true, true_and, not_true_eq_false, not_false_eq_true, reduceIte, c1, s1, s2, s3, j1, j2, j3, e1, e2, e3, q1, q2, q3]
theorem aft_generate (h : Md m sc N S g I J P A T) (hn : n + 3 < N) (hN : N < 100000) : Ev sv (d + 14) (110, 398, [some (.ref sc), l1, some (.ref m), l3, some (.int (nI n)), l5, l6], [.int v]) (tv t u g I J P) Q ↔ Ev sv (d + 13) (83, 0, [some (.ref m), some (.int (S (n + 1))), some (.long (((S (n + 2)).toInt64 <<< ((32 : Int32).toInt64 &&& 63)) ||| ((S (n + 3)).toInt64 &&& 4294967295))), none, none, none, none], []) (tv t u g (ovl I m A) (ovJ J m T) P) (fun r M1 => Ev sv (d + 14) (110, 430, [some (.ref sc), l1, some (.ref m), l3, some (.int (nI n)), l5, l6], r.toList ++ [.int v]) M1 Q) := by
  obtain ⟨hL, h1, h2, s1, s2, s3⟩ := h
  have c1 := hL.1
  rw [h1, h2]
  have j1 : jin (nI (n + 1)) N = true := jin_nI (by omega) (by omega)
  have j2 : jin (nI (n + 2)) N = true := jin_nI (by omega) (by omega)
  have j3 : jin (nI (n + 3)) N = true := jin_nI (by omega) (by omega)
  have e1 : nI n + 1 = nI (n + 1) := nI_add n 1
  have e2 : nI n + 2 = nI (n + 2) := nI_add n 2
  have e3 : nI n + 3 = nI (n + 3) := nI_add n 3
  have q1 : (nI (n + 1)).toNatClampNeg = n + 1 := nI_clamp (by omega)
  have q2 : (nI (n + 2)).toNatClampNeg = n + 2 := nI_clamp (by omega)
  have q3 : (nI (n + 3)).toNatClampNeg = n + 3 := nI_clamp (by omega)
  simp only [s_L_law_398, s_L_law_398n, s_L_law_398z, s_L_law_399, s_L_law_399n, s_L_law_399z, s_L_law_400, s_L_law_402, s_L_law_403, s_L_law_404, s_L_law_405, s_L_law_405n, s_L_law_405z, s_L_law_406, s_L_law_408, s_L_law_409, s_L_law_410, s_L_law_411, s_L_law_412, s_L_law_414, s_L_law_415, s_L_law_415n, s_L_law_415z, s_L_law_416, s_L_law_418, s_L_law_419, s_L_law_420, s_L_law_421, s_L_law_422, s_L_law_425, s_L_law_426, s_L_law_427, tl_some, tl_none, cv_int, cv_ref, cv_null, cv_long, cat_rf, jcv_nil, jcat_cons, jv_none, jv_int, jv_ref, jv_null, jw_rf, rf_some, rf_none, bz_0, bz_1, i1_0, i0_0, if_true, if_false, ite_self, List.nil_append, List.cons_append, Nat.reduceAdd, Nat.reduceLeDiff, Nat.zero_le, Nat.le_refl, and_self, and_true, true_and, not_true_eq_false, not_false_eq_true, reduceIte, c1, s1, s2, s3, j1, j2, j3, e1, e2, e3, q1, q2, q3]
theorem bef_terminate (h : Lo sv a m sc out N S ω t g I J P A T tb ub st) (hn : n + 3 < N) (hN : N < 100000) : Ev sv (d + 14) (110, 435, [some (.ref sc), some (.ref a), some (.ref m), some (.ref out), some (.int (nI n)), l5, l6], []) (tv t u g I J P) Q ↔ Ev sv (d + 13) (19, 0, [some (.ref a)], []) (tv t u g I J P) (fun r M1 => Ev sv (d + 14) (110, 439, [some (.ref sc), some (.ref a), some (.ref m), some (.ref out), some (.int (nI n)), l5, l6], r.toList ++ []) M1 Q) := by
  obtain ⟨⟨hR, -⟩, -, ha, ⟨s1, s2, s3⟩, -⟩ := h
  have c1 := hR.1.1
  rw [ha] at c1
  have j1 : jin (nI (n + 1)) N = true := jin_nI (by omega) (by omega)
  have j2 : jin (nI (n + 2)) N = true := jin_nI (by omega) (by omega)
  have j3 : jin (nI (n + 3)) N = true := jin_nI (by omega) (by omega)
  have e1 : nI n + 1 = nI (n + 1) := nI_add n 1
  have e2 : nI n + 2 = nI (n + 2) := nI_add n 2
  have e3 : nI n + 3 = nI (n + 3) := nI_add n 3
  have q1 : (nI (n + 1)).toNatClampNeg = n + 1 := nI_clamp (by omega)
  have q2 : (nI (n + 2)).toNatClampNeg = n + 2 := nI_clamp (by omega)
  have q3 : (nI (n + 3)).toNatClampNeg = n + 3 := nI_clamp (by omega)
  simp only [s_L_law_435, s_L_law_435n, s_L_law_435z, s_L_law_436, tl_some, tl_none, cv_int, cv_ref, cv_null, cv_long, cat_rf, jcv_nil, jcat_cons, jv_none, jv_int, jv_ref, jv_null, jw_rf, rf_some, rf_none, bz_0, bz_1, i1_0, i0_0, if_true, if_false, ite_self, List.nil_append, List.cons_append, Nat.reduceAdd, Nat.reduceLeDiff, Nat.zero_le, Nat.le_refl, and_self, and_true, true_and, not_true_eq_false, not_false_eq_true, reduceIte, c1, s1, s2, s3, j1, j2, j3, e1, e2, e3, q1, q2, q3]
theorem aft_terminate (h : Md m sc N S g I J P A T) (hn : n + 3 < N) (hN : N < 100000) : Ev sv (d + 14) (110, 439, [some (.ref sc), l1, some (.ref m), l3, some (.int (nI n)), l5, l6], [.int v]) (tv t u g I J P) Q ↔ Ev sv (d + 13) (84, 0, [some (.ref m), none], []) (tv t u g (ovl I m A) (ovJ J m T) P) (fun r M1 => Ev sv (d + 14) (110, 443, [some (.ref sc), l1, some (.ref m), l3, some (.int (nI n)), l5, l6], r.toList ++ [.int v]) M1 Q) := by
  obtain ⟨hL, h1, h2, s1, s2, s3⟩ := h
  have c1 := hL.1
  rw [h1, h2]
  have j1 : jin (nI (n + 1)) N = true := jin_nI (by omega) (by omega)
  have j2 : jin (nI (n + 2)) N = true := jin_nI (by omega) (by omega)
  have j3 : jin (nI (n + 3)) N = true := jin_nI (by omega) (by omega)
  have e1 : nI n + 1 = nI (n + 1) := nI_add n 1
  have e2 : nI n + 2 = nI (n + 2) := nI_add n 2
  have e3 : nI n + 3 = nI (n + 3) := nI_add n 3
  have q1 : (nI (n + 1)).toNatClampNeg = n + 1 := nI_clamp (by omega)
  have q2 : (nI (n + 2)).toNatClampNeg = n + 2 := nI_clamp (by omega)
  have q3 : (nI (n + 3)).toNatClampNeg = n + 3 := nI_clamp (by omega)
  simp only [s_L_law_439, s_L_law_439n, s_L_law_439z, s_L_law_440, tl_some, tl_none, cv_int, cv_ref, cv_null, cv_long, cat_rf, jcv_nil, jcat_cons, jv_none, jv_int, jv_ref, jv_null, jw_rf, rf_some, rf_none, bz_0, bz_1, i1_0, i0_0, if_true, if_false, ite_self, List.nil_append, List.cons_append, Nat.reduceAdd, Nat.reduceLeDiff, Nat.zero_le, Nat.le_refl, and_self, and_true, true_and, not_true_eq_false, not_false_eq_true, reduceIte, c1, s1, s2, s3, j1, j2, j3, e1, e2, e3, q1, q2, q3]
theorem bef_lines (h : Lo sv a m sc out N S ω t g I J P A T tb ub st) (hn : n + 3 < N) (hN : N < 100000) : Ev sv (d + 14) (110, 516, [some (.ref sc), some (.ref a), some (.ref m), some (.ref out), some (.int (nI n)), l5, l6], []) (tv t u g I J P) Q ↔ Ev sv (d + 13) (21, 0, [some (.ref a)], []) (tv t u g I J P) (fun r M1 => Ev sv (d + 14) (110, 520, [some (.ref sc), some (.ref a), some (.ref m), some (.ref out), some (.int (nI n)), l5, l6], r.toList ++ []) M1 Q) := by
  obtain ⟨⟨hR, -⟩, -, ha, ⟨s1, s2, s3⟩, -⟩ := h
  have c1 := hR.1.1
  rw [ha] at c1
  have j1 : jin (nI (n + 1)) N = true := jin_nI (by omega) (by omega)
  have j2 : jin (nI (n + 2)) N = true := jin_nI (by omega) (by omega)
  have j3 : jin (nI (n + 3)) N = true := jin_nI (by omega) (by omega)
  have e1 : nI n + 1 = nI (n + 1) := nI_add n 1
  have e2 : nI n + 2 = nI (n + 2) := nI_add n 2
  have e3 : nI n + 3 = nI (n + 3) := nI_add n 3
  have q1 : (nI (n + 1)).toNatClampNeg = n + 1 := nI_clamp (by omega)
  have q2 : (nI (n + 2)).toNatClampNeg = n + 2 := nI_clamp (by omega)
  have q3 : (nI (n + 3)).toNatClampNeg = n + 3 := nI_clamp (by omega)
  simp only [s_L_law_516, s_L_law_516n, s_L_law_516z, s_L_law_517, tl_some, tl_none, cv_int, cv_ref, cv_null, cv_long, cat_rf, jcv_nil, jcat_cons, jv_none, jv_int, jv_ref, jv_null, jw_rf, rf_some, rf_none, bz_0, bz_1, i1_0, i0_0, if_true, if_false, ite_self, List.nil_append, List.cons_append, Nat.reduceAdd, Nat.reduceLeDiff, Nat.zero_le, Nat.le_refl, and_self, and_true, true_and, not_true_eq_false, not_false_eq_true, reduceIte, c1, s1, s2, s3, j1, j2, j3, e1, e2, e3, q1, q2, q3]
theorem aft_lines (h : Md m sc N S g I J P A T) (hn : n + 3 < N) (hN : N < 100000) : Ev sv (d + 14) (110, 520, [some (.ref sc), l1, some (.ref m), l3, some (.int (nI n)), l5, l6], [.int v]) (tv t u g I J P) Q ↔ Ev sv (d + 13) (86, 0, [some (.ref m)], []) (tv t u g (ovl I m A) (ovJ J m T) P) (fun r M1 => Ev sv (d + 14) (110, 524, [some (.ref sc), l1, some (.ref m), l3, some (.int (nI n)), l5, l6], r.toList ++ [.int v]) M1 Q) := by
  obtain ⟨hL, h1, h2, s1, s2, s3⟩ := h
  have c1 := hL.1
  rw [h1, h2]
  have j1 : jin (nI (n + 1)) N = true := jin_nI (by omega) (by omega)
  have j2 : jin (nI (n + 2)) N = true := jin_nI (by omega) (by omega)
  have j3 : jin (nI (n + 3)) N = true := jin_nI (by omega) (by omega)
  have e1 : nI n + 1 = nI (n + 1) := nI_add n 1
  have e2 : nI n + 2 = nI (n + 2) := nI_add n 2
  have e3 : nI n + 3 = nI (n + 3) := nI_add n 3
  have q1 : (nI (n + 1)).toNatClampNeg = n + 1 := nI_clamp (by omega)
  have q2 : (nI (n + 2)).toNatClampNeg = n + 2 := nI_clamp (by omega)
  have q3 : (nI (n + 3)).toNatClampNeg = n + 3 := nI_clamp (by omega)
  simp only [s_L_law_520, s_L_law_520n, s_L_law_520z, s_L_law_521, tl_some, tl_none, cv_int, cv_ref, cv_null, cv_long, cat_rf, jcv_nil, jcat_cons, jv_none, jv_int, jv_ref, jv_null, jw_rf, rf_some, rf_none, bz_0, bz_1, i1_0, i0_0, if_true, if_false, ite_self, List.nil_append, List.cons_append, Nat.reduceAdd, Nat.reduceLeDiff, Nat.zero_le, Nat.le_refl, and_self, and_true, true_and, not_true_eq_false, not_false_eq_true, reduceIte, c1, s1, s2, s3, j1, j2, j3, e1, e2, e3, q1, q2, q3]
theorem bef_total (h : Lo sv a m sc out N S ω t g I J P A T tb ub st) (hn : n + 3 < N) (hN : N < 100000) : Ev sv (d + 14) (110, 529, [some (.ref sc), some (.ref a), some (.ref m), some (.ref out), some (.int (nI n)), l5, l6], []) (tv t u g I J P) Q ↔ Ev sv (d + 13) (22, 0, [some (.ref a), some (.int (S (n + 1))), none], []) (tv t u g I J P) (fun r M1 => Ev sv (d + 14) (110, 539, [some (.ref sc), some (.ref a), some (.ref m), some (.ref out), some (.int (nI n)), l5, l6], r.toList ++ []) M1 Q) := by
  obtain ⟨⟨hR, -⟩, -, ha, ⟨s1, s2, s3⟩, -⟩ := h
  have c1 := hR.1.1
  rw [ha] at c1
  have j1 : jin (nI (n + 1)) N = true := jin_nI (by omega) (by omega)
  have j2 : jin (nI (n + 2)) N = true := jin_nI (by omega) (by omega)
  have j3 : jin (nI (n + 3)) N = true := jin_nI (by omega) (by omega)
  have e1 : nI n + 1 = nI (n + 1) := nI_add n 1
  have e2 : nI n + 2 = nI (n + 2) := nI_add n 2
  have e3 : nI n + 3 = nI (n + 3) := nI_add n 3
  have q1 : (nI (n + 1)).toNatClampNeg = n + 1 := nI_clamp (by omega)
  have q2 : (nI (n + 2)).toNatClampNeg = n + 2 := nI_clamp (by omega)
  have q3 : (nI (n + 3)).toNatClampNeg = n + 3 := nI_clamp (by omega)
  simp only [s_L_law_529, s_L_law_529n, s_L_law_529z, s_L_law_530, s_L_law_530n, s_L_law_530z, s_L_law_531, s_L_law_533, s_L_law_534, s_L_law_535, s_L_law_536, tl_some, tl_none, cv_int, cv_ref, cv_null, cv_long, cat_rf, jcv_nil, jcat_cons, jv_none, jv_int, jv_ref, jv_null, jw_rf, rf_some, rf_none, bz_0, bz_1, i1_0, i0_0, if_true, if_false, ite_self, List.nil_append, List.cons_append, Nat.reduceAdd, Nat.reduceLeDiff, Nat.zero_le, Nat.le_refl, and_self, and_true, true_and, not_true_eq_false, not_false_eq_true, reduceIte, c1, s1, s2, s3, j1, j2, j3, e1, e2, e3, q1, q2, q3]
theorem aft_total (h : Md m sc N S g I J P A T) (hn : n + 3 < N) (hN : N < 100000) : Ev sv (d + 14) (110, 539, [some (.ref sc), l1, some (.ref m), l3, some (.int (nI n)), l5, l6], [.long V]) (tv t u g I J P) Q ↔ Ev sv (d + 13) (87, 0, [some (.ref m), some (.int (S (n + 1)))], []) (tv t u g (ovl I m A) (ovJ J m T) P) (fun r M1 => Ev sv (d + 14) (110, 549, [some (.ref sc), l1, some (.ref m), l3, some (.int (nI n)), l5, l6], r.toList ++ [.long V]) M1 Q) := by
  obtain ⟨hL, h1, h2, s1, s2, s3⟩ := h
  have c1 := hL.1
  rw [h1, h2]
  have j1 : jin (nI (n + 1)) N = true := jin_nI (by omega) (by omega)
  have j2 : jin (nI (n + 2)) N = true := jin_nI (by omega) (by omega)
  have j3 : jin (nI (n + 3)) N = true := jin_nI (by omega) (by omega)
  have e1 : nI n + 1 = nI (n + 1) := nI_add n 1
  have e2 : nI n + 2 = nI (n + 2) := nI_add n 2
  have e3 : nI n + 3 = nI (n + 3) := nI_add n 3
  have q1 : (nI (n + 1)).toNatClampNeg = n + 1 := nI_clamp (by omega)
  have q2 : (nI (n + 2)).toNatClampNeg = n + 2 := nI_clamp (by omega)
  have q3 : (nI (n + 3)).toNatClampNeg = n + 3 := nI_clamp (by omega)
  simp only [s_L_law_539, s_L_law_539n, s_L_law_539z, s_L_law_540, s_L_law_540n, s_L_law_540z, s_L_law_541, s_L_law_543, s_L_law_544, s_L_law_545, s_L_law_546, tl_some, tl_none, cv_int, cv_ref, cv_null, cv_long, cat_rf, jcv_nil, jcat_cons, jv_none, jv_int, jv_ref, jv_null, jw_rf, rf_some, rf_none, bz_0, bz_1, i1_0, i0_0, if_true, if_false, ite_self, List.nil_append, List.cons_append, Nat.reduceAdd, Nat.reduceLeDiff, Nat.zero_le, Nat.le_refl, and_self, and_true, true_and, not_true_eq_false, not_false_eq_true, reduceIte, c1, s1, s2, s3, j1, j2, j3, e1, e2, e3, q1, q2, q3]
theorem bef_counter (h : Lo sv a m sc out N S ω t g I J P A T tb ub st) (hn : n + 3 < N) (hN : N < 100000) : Ev sv (d + 14) (110, 555, [some (.ref sc), some (.ref a), some (.ref m), some (.ref out), some (.int (nI n)), l5, l6], []) (tv t u g I J P) Q ↔ Ev sv (d + 13) (23, 0, [some (.ref a), some (.int (S (n + 1)))], []) (tv t u g I J P) (fun r M1 => Ev sv (d + 14) (110, 565, [some (.ref sc), some (.ref a), some (.ref m), some (.ref out), some (.int (nI n)), l5, l6], r.toList ++ []) M1 Q) := by
  obtain ⟨⟨hR, -⟩, -, ha, ⟨s1, s2, s3⟩, -⟩ := h
  have c1 := hR.1.1
  rw [ha] at c1
  have j1 : jin (nI (n + 1)) N = true := jin_nI (by omega) (by omega)
  have j2 : jin (nI (n + 2)) N = true := jin_nI (by omega) (by omega)
  have j3 : jin (nI (n + 3)) N = true := jin_nI (by omega) (by omega)
  have e1 : nI n + 1 = nI (n + 1) := nI_add n 1
  have e2 : nI n + 2 = nI (n + 2) := nI_add n 2
  have e3 : nI n + 3 = nI (n + 3) := nI_add n 3
  have q1 : (nI (n + 1)).toNatClampNeg = n + 1 := nI_clamp (by omega)
  have q2 : (nI (n + 2)).toNatClampNeg = n + 2 := nI_clamp (by omega)
  have q3 : (nI (n + 3)).toNatClampNeg = n + 3 := nI_clamp (by omega)
  simp only [s_L_law_555, s_L_law_555n, s_L_law_555z, s_L_law_556, s_L_law_556n, s_L_law_556z, s_L_law_557, s_L_law_559, s_L_law_560, s_L_law_561, s_L_law_562, tl_some, tl_none, cv_int, cv_ref, cv_null, cv_long, cat_rf, jcv_nil, jcat_cons, jv_none, jv_int, jv_ref, jv_null, jw_rf, rf_some, rf_none, bz_0, bz_1, i1_0, i0_0, if_true, if_false, ite_self, List.nil_append, List.cons_append, Nat.reduceAdd, Nat.reduceLeDiff, Nat.zero_le, Nat.le_refl, and_self, and_true, true_and, not_true_eq_false, not_false_eq_true, reduceIte, c1, s1, s2, s3, j1, j2, j3, e1, e2, e3, q1, q2, q3]
theorem aft_counter (h : Md m sc N S g I J P A T) (hn : n + 3 < N) (hN : N < 100000) : Ev sv (d + 14) (110, 565, [some (.ref sc), l1, some (.ref m), l3, some (.int (nI n)), l5, l6], [.int v]) (tv t u g I J P) Q ↔ Ev sv (d + 13) (88, 0, [some (.ref m), some (.int (S (n + 1)))], []) (tv t u g (ovl I m A) (ovJ J m T) P) (fun r M1 => Ev sv (d + 14) (110, 575, [some (.ref sc), l1, some (.ref m), l3, some (.int (nI n)), l5, l6], r.toList ++ [.int v]) M1 Q) := by
  obtain ⟨hL, h1, h2, s1, s2, s3⟩ := h
  have c1 := hL.1
  rw [h1, h2]
  have j1 : jin (nI (n + 1)) N = true := jin_nI (by omega) (by omega)
  have j2 : jin (nI (n + 2)) N = true := jin_nI (by omega) (by omega)
  have j3 : jin (nI (n + 3)) N = true := jin_nI (by omega) (by omega)
  have e1 : nI n + 1 = nI (n + 1) := nI_add n 1
  have e2 : nI n + 2 = nI (n + 2) := nI_add n 2
  have e3 : nI n + 3 = nI (n + 3) := nI_add n 3
  have q1 : (nI (n + 1)).toNatClampNeg = n + 1 := nI_clamp (by omega)
  have q2 : (nI (n + 2)).toNatClampNeg = n + 2 := nI_clamp (by omega)
  have q3 : (nI (n + 3)).toNatClampNeg = n + 3 := nI_clamp (by omega)
  simp only [s_L_law_565, s_L_law_565n, s_L_law_565z, s_L_law_566, s_L_law_566n, s_L_law_566z, s_L_law_567, s_L_law_569, s_L_law_570, s_L_law_571, s_L_law_572, tl_some, tl_none, cv_int, cv_ref, cv_null, cv_long, cat_rf, jcv_nil, jcat_cons, jv_none, jv_int, jv_ref, jv_null, jw_rf, rf_some, rf_none, bz_0, bz_1, i1_0, i0_0, if_true, if_false, ite_self, List.nil_append, List.cons_append, Nat.reduceAdd, Nat.reduceLeDiff, Nat.zero_le, Nat.le_refl, and_self, and_true, true_and, not_true_eq_false, not_false_eq_true, reduceIte, c1, s1, s2, s3, j1, j2, j3, e1, e2, e3, q1, q2, q3]
theorem bef_suppress (h : Lo sv a m sc out N S ω t g I J P A T tb ub st) (hn : n + 3 < N) (hN : N < 100000) : Ev sv (d + 14) (110, 580, [some (.ref sc), some (.ref a), some (.ref m), some (.ref out), some (.int (nI n)), l5, l6], []) (tv t u g I J P) Q ↔ Ev sv (d + 13) (24, 0, [some (.ref a), some (.int (S (n + 1))), none], []) (tv t u g I J P) (fun r M1 => Ev sv (d + 14) (110, 590, [some (.ref sc), some (.ref a), some (.ref m), some (.ref out), some (.int (nI n)), l5, l6], r.toList ++ []) M1 Q) := by
  obtain ⟨⟨hR, -⟩, -, ha, ⟨s1, s2, s3⟩, -⟩ := h
  have c1 := hR.1.1
  rw [ha] at c1
  have j1 : jin (nI (n + 1)) N = true := jin_nI (by omega) (by omega)
  have j2 : jin (nI (n + 2)) N = true := jin_nI (by omega) (by omega)
  have j3 : jin (nI (n + 3)) N = true := jin_nI (by omega) (by omega)
  have e1 : nI n + 1 = nI (n + 1) := nI_add n 1
  have e2 : nI n + 2 = nI (n + 2) := nI_add n 2
  have e3 : nI n + 3 = nI (n + 3) := nI_add n 3
  have q1 : (nI (n + 1)).toNatClampNeg = n + 1 := nI_clamp (by omega)
  have q2 : (nI (n + 2)).toNatClampNeg = n + 2 := nI_clamp (by omega)
  have q3 : (nI (n + 3)).toNatClampNeg = n + 3 := nI_clamp (by omega)
  simp only [s_L_law_580, s_L_law_580n, s_L_law_580z, s_L_law_581, s_L_law_581n, s_L_law_581z, s_L_law_582, s_L_law_584, s_L_law_585, s_L_law_586, s_L_law_587, tl_some, tl_none, cv_int, cv_ref, cv_null, cv_long, cat_rf, jcv_nil, jcat_cons, jv_none, jv_int, jv_ref, jv_null, jw_rf, rf_some, rf_none, bz_0, bz_1, i1_0, i0_0, if_true, if_false, ite_self, List.nil_append, List.cons_append, Nat.reduceAdd, Nat.reduceLeDiff, Nat.zero_le, Nat.le_refl, and_self, and_true, true_and, not_true_eq_false, not_false_eq_true, reduceIte, c1, s1, s2, s3, j1, j2, j3, e1, e2, e3, q1, q2, q3]
theorem aft_suppress (h : Md m sc N S g I J P A T) (hn : n + 3 < N) (hN : N < 100000) : Ev sv (d + 14) (110, 590, [some (.ref sc), l1, some (.ref m), l3, some (.int (nI n)), l5, l6], [.int v]) (tv t u g I J P) Q ↔ Ev sv (d + 13) (65, 0, [some (.ref m), some (.int (S (n + 1))), none], []) (tv t u g (ovl I m A) (ovJ J m T) P) (fun r M1 => Ev sv (d + 14) (110, 600, [some (.ref sc), l1, some (.ref m), l3, some (.int (nI n)), l5, l6], r.toList ++ [.int v]) M1 Q) := by
  obtain ⟨hL, h1, h2, s1, s2, s3⟩ := h
  have c1 := hL.1
  rw [h1, h2]
  have j1 : jin (nI (n + 1)) N = true := jin_nI (by omega) (by omega)
  have j2 : jin (nI (n + 2)) N = true := jin_nI (by omega) (by omega)
  have j3 : jin (nI (n + 3)) N = true := jin_nI (by omega) (by omega)
  have e1 : nI n + 1 = nI (n + 1) := nI_add n 1
  have e2 : nI n + 2 = nI (n + 2) := nI_add n 2
  have e3 : nI n + 3 = nI (n + 3) := nI_add n 3
  have q1 : (nI (n + 1)).toNatClampNeg = n + 1 := nI_clamp (by omega)
  have q2 : (nI (n + 2)).toNatClampNeg = n + 2 := nI_clamp (by omega)
  have q3 : (nI (n + 3)).toNatClampNeg = n + 3 := nI_clamp (by omega)
  simp only [s_L_law_590, s_L_law_590n, s_L_law_590z, s_L_law_591, s_L_law_591n, s_L_law_591z, s_L_law_592, s_L_law_594, s_L_law_595, s_L_law_596, s_L_law_597, tl_some, tl_none, cv_int, cv_ref, cv_null, cv_long, cat_rf, jcv_nil, jcat_cons, jv_none, jv_int, jv_ref, jv_null, jw_rf, rf_some, rf_none, bz_0, bz_1, i1_0, i0_0, if_true, if_false, ite_self, List.nil_append, List.cons_append, Nat.reduceAdd, Nat.reduceLeDiff, Nat.zero_le, Nat.le_refl, and_self, and_true, true_and, not_true_eq_false, not_false_eq_true, reduceIte, c1, s1, s2, s3, j1, j2, j3, e1, e2, e3, q1, q2, q3]
theorem bef_indicate (h : Lo sv a m sc out N S ω t g I J P A T tb ub st) (hn : n + 3 < N) (hN : N < 100000) : Ev sv (d + 14) (110, 605, [some (.ref sc), some (.ref a), some (.ref m), some (.ref out), some (.int (nI n)), l5, l6], []) (tv t u g I J P) Q ↔ Ev sv (d + 13) (25, 0, [some (.ref a), some (.int (S (n + 1))), none, none], []) (tv t u g I J P) (fun r M1 => Ev sv (d + 14) (110, 615, [some (.ref sc), some (.ref a), some (.ref m), some (.ref out), some (.int (nI n)), l5, l6], r.toList ++ []) M1 Q) := by
  obtain ⟨⟨hR, -⟩, -, ha, ⟨s1, s2, s3⟩, -⟩ := h
  have c1 := hR.1.1
  rw [ha] at c1
  have j1 : jin (nI (n + 1)) N = true := jin_nI (by omega) (by omega)
  have j2 : jin (nI (n + 2)) N = true := jin_nI (by omega) (by omega)
  have j3 : jin (nI (n + 3)) N = true := jin_nI (by omega) (by omega)
  have e1 : nI n + 1 = nI (n + 1) := nI_add n 1
  have e2 : nI n + 2 = nI (n + 2) := nI_add n 2
  have e3 : nI n + 3 = nI (n + 3) := nI_add n 3
  have q1 : (nI (n + 1)).toNatClampNeg = n + 1 := nI_clamp (by omega)
  have q2 : (nI (n + 2)).toNatClampNeg = n + 2 := nI_clamp (by omega)
  have q3 : (nI (n + 3)).toNatClampNeg = n + 3 := nI_clamp (by omega)
  simp only [s_L_law_605, s_L_law_605n, s_L_law_605z, s_L_law_606, s_L_law_606n, s_L_law_606z, s_L_law_607, s_L_law_609, s_L_law_610, s_L_law_611, s_L_law_612, tl_some, tl_none, cv_int, cv_ref, cv_null, cv_long, cat_rf, jcv_nil, jcat_cons, jv_none, jv_int, jv_ref, jv_null, jw_rf, rf_some, rf_none, bz_0, bz_1, i1_0, i0_0, if_true, if_false, ite_self, List.nil_append, List.cons_append, Nat.reduceAdd, Nat.reduceLeDiff, Nat.zero_le, Nat.le_refl, and_self, and_true, true_and, not_true_eq_false, not_false_eq_true, reduceIte, c1, s1, s2, s3, j1, j2, j3, e1, e2, e3, q1, q2, q3]
theorem aft_indicate (h : Md m sc N S g I J P A T) (hn : n + 3 < N) (hN : N < 100000) : Ev sv (d + 14) (110, 615, [some (.ref sc), l1, some (.ref m), l3, some (.int (nI n)), l5, l6], [.int v]) (tv t u g I J P) Q ↔ Ev sv (d + 13) (66, 0, [some (.ref m), some (.int (S (n + 1))), none], []) (tv t u g (ovl I m A) (ovJ J m T) P) (fun r M1 => Ev sv (d + 14) (110, 625, [some (.ref sc), l1, some (.ref m), l3, some (.int (nI n)), l5, l6], r.toList ++ [.int v]) M1 Q) := by
  obtain ⟨hL, h1, h2, s1, s2, s3⟩ := h
  have c1 := hL.1
  rw [h1, h2]
  have j1 : jin (nI (n + 1)) N = true := jin_nI (by omega) (by omega)
  have j2 : jin (nI (n + 2)) N = true := jin_nI (by omega) (by omega)
  have j3 : jin (nI (n + 3)) N = true := jin_nI (by omega) (by omega)
  have e1 : nI n + 1 = nI (n + 1) := nI_add n 1
  have e2 : nI n + 2 = nI (n + 2) := nI_add n 2
  have e3 : nI n + 3 = nI (n + 3) := nI_add n 3
  have q1 : (nI (n + 1)).toNatClampNeg = n + 1 := nI_clamp (by omega)
  have q2 : (nI (n + 2)).toNatClampNeg = n + 2 := nI_clamp (by omega)
  have q3 : (nI (n + 3)).toNatClampNeg = n + 3 := nI_clamp (by omega)
  simp only [s_L_law_615, s_L_law_615n, s_L_law_615z, s_L_law_616, s_L_law_616n, s_L_law_616z, s_L_law_617, s_L_law_619, s_L_law_620, s_L_law_621, s_L_law_622, tl_some, tl_none, cv_int, cv_ref, cv_null, cv_long, cat_rf, jcv_nil, jcat_cons, jv_none, jv_int, jv_ref, jv_null, jw_rf, rf_some, rf_none, bz_0, bz_1, i1_0, i0_0, if_true, if_false, ite_self, List.nil_append, List.cons_append, Nat.reduceAdd, Nat.reduceLeDiff, Nat.zero_le, Nat.le_refl, and_self, and_true, true_and, not_true_eq_false, not_false_eq_true, reduceIte, c1, s1, s2, s3, j1, j2, j3, e1, e2, e3, q1, q2, q3]
end
