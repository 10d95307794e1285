-- ===== heads and foots of controls =====
theorem rollT_fs {A B : Nat → Nat → Int32} (h : fs A B) (T : Nat → Int64) (lv : Nat) : rollT B T lv = rollT A T lv := by
  unfold rollT
  rw [h.gf, h.ns, rO_fs h]
theorem fr.uq {A B : Nat → Nat → Int32} (h : fr A B) (hp : WfP A) : UqA B := (h.wp hp).2.2.2
section
variable {sv : Nat → Value} {d t u : Nat} {Q : Option Value → jM → Prop} {g : jG} {I I' : tI} {J : tJ} {P : tP} {A B : Nat → Nat → Int32} {T T' : Nat → Int64} {ω : Wd} {tb ub st : Nat} {x y z : Int32}
/-- one head -/
theorem c_head1 (hR : Rel sv ω t g I J P A T tb ub) (hp : WfP A) (hv : V0 A) (hB : Bd ω I A st) (hs : st + 1 < 1000000) {lv : Nat} (hlv : lv ≤ ncA A) (hb : ln A + 30 ≤ 100000)
    (K : ∀ (t' u' : Nat) (g' : jG) (I' : tI) (J' : tJ) (P' : tP) (tb' ub' st' : Nat), Rel sv ω t' g' I' J' P' (headA A lv) T tb' ub' → Nx t u g I J P tb ub t' u' g' I' J' P' tb' ub' → Bd ω I' (headA A lv) st' → st' ≤ st + 1 → (RI ω I A → RI ω I' (headA A lv)) → Q none (tv t' u' g' I' J' P')) :
    Ev sv (d + 11) (39, 0, [some (.ref (ω.1 0)), some (va_rf (gR ω (gF A 2 (nI lv)))), some (.long (A 64 lv).toInt64), none, none, none], []) (tv t u g I J P) Q := by
  have e : headA A lv = inBodyA A (gF A 2 (nI lv)) (A 64 lv).toInt64.toInt32 := by
    unfold headA
    rw [Int32.toInt32_toInt64]
    by_cases h : lv = 0
    · rw [if_pos h, h, (hv 0 (Or.inl rfl)).1]
    · rw [if_neg h]
  rw [e] at K
  refine c_inBody (d := d) hR hp hB hs (gF_le A 2 (nI lv)) (fun h0 => Or.inl (gF_hit h0).1) (fun h0 h3 => ?_) hb K
  rw [(gF_hit h0).1] at h3
  exact absurd h3 (by decide)
theorem c_heads_loop {lo : Nat} (hw : WfA A) (hl : LnA A) (hp : WfP A) (hv : V0 A) (hb : ln A + 180 ≤ 100000) {l1 : Option Value} (hj1 : jw l1 = true) : ∀ n k, lo + k + n = ncA A + 1 → ∀ (t u : Nat) (g : jG) (I : tI) (J : tJ) (P : tP) (tb ub st : Nat), st + n < 999999 → Rel sv ω t g I J P (hdA A lo k) T tb ub → Bd ω I (hdA A lo k) st →
    (∀ (t' u' : Nat) (g' : jG) (I' : tI) (J' : tJ) (P' : tP) (tb' ub' st' : Nat), Rel sv ω t' g' I' J' P' (hdA A lo (ncA A + 1 - lo)) T tb' ub' → Nx t u g I J P tb ub t' u' g' I' J' P' tb' ub' → Bd ω I' (hdA A lo (ncA A + 1 - lo)) st' → st' ≤ st + n → (RI ω I (hdA A lo k) → RI ω I' (hdA A lo (ncA A + 1 - lo))) → Q none (tv t' u' g' I' J' P')) →
    Ev sv (d + 12) (47, 2, [some (.ref (ω.1 0)), l1, some (.int (nI (lo + k)))], []) (tv t u g I J P) Q := by
  have h5 := hw.2.2.1
  intro n
  induction n with
  | zero =>
    intro k hk t u g I J P tb ub st hst hR hB K
    have c1 := hR.1.1
    have c8 : I 6 5 (ω.1 0) = nI (ncA A) := by
      rw [hR.1.2.2.2.2.2.2.2.1, hdA_fr A lo k 7 4 rfl]
      exact h5.1
    have h1 : nI (ncA A) < nI (lo + k) := nI_lt (by omega) (by omega)
    refine s_X4_printControlHeads_2.mpr ?_
    simp only [s_X4_printControlHeads_3, s_X4_printControlHeads_3n, s_X4_printControlHeads_3z, s_X4_printControlHeads_4, s_X4_printControlHeads_7, s_X4_printControlHeads_33, tl_some, tl_none, cv_int, cv_ref, cv_null, cv_long, cat_rf, jcv_nil, jcat_cons, jv_none, jv_int, jv_ref, jv_null, jw_rf, rf_some, rf_none, bz_0, bz_1, i1_0, i0_0, if_true, if_false, ite_self, List.nil_append, List.cons_append, Nat.reduceAdd, Nat.reduceLeDiff, Nat.zero_le, Nat.le_refl, and_self, and_true, true_and, not_true_eq_false, not_false_eq_true, reduceIte, c1, c8, h1]
    have e : ncA A + 1 - lo = k := by omega
    rw [e] at K
    exact K t u g I J P tb ub st hR (Nx_I (fun _ _ => rfl)) hB (by omega) (fun h => h)
  | succ n ih =>
    intro k hk t u g I J P tb ub st hst hR hB K
    have c1 := hR.1.1
    have c8 : I 6 5 (ω.1 0) = nI (ncA A) := by
      rw [hR.1.2.2.2.2.2.2.2.1, hdA_fr A lo k 7 4 rfl]
      exact h5.1
    have h1 : ¬ nI (ncA A) < nI (lo + k) := nI_nlt (by omega) (by omega)
    obtain ⟨v1, v2, v3, v4, v5, v6, v7, v8⟩ := hR.2.1
    have hfr := hdA_fr A lo k
    have hj : jin (nI (lo + k)) 6 = true := jin_nI (by omega) (by omega)
    have hc : (nI (lo + k)).toNatClampNeg = lo + k := nI_clamp (by omega)
    have a1 := v7 (lo + k) (by omega)
    have hs : nI (lo + k) + 1 = nI (lo + (k + 1)) := by rw [nIs]; rfl
    have hgo := fun (Q : Option Value → jM → Prop) => c_groupOf (Q := Q) (sv := sv) (d := d + 8) (u := u) (kd := 2) (lv := nI (lo + k)) hR (hfr.uq hp) (by decide)
    refine s_X4_printControlHeads_2.mpr ?_
    simp only [s_X4_printControlHeads_3, s_X4_printControlHeads_3n, s_X4_printControlHeads_3z, s_X4_printControlHeads_4, s_X4_printControlHeads_7, s_X4_printControlHeads_10, s_X4_printControlHeads_10n, s_X4_printControlHeads_10z, s_X4_printControlHeads_11, s_X4_printControlHeads_11n, s_X4_printControlHeads_11z, s_X4_printControlHeads_12, s_X4_printControlHeads_13, s_X4_printControlHeads_14, s_X4_printControlHeads_17, s_X4_printControlHeads_17n, s_X4_printControlHeads_17z, s_X4_printControlHeads_18, s_X4_printControlHeads_21, s_X4_printControlHeads_22, s_X4_printControlHeads_23, s_X4_printControlHeads_24, tl_some, tl_none, cv_int, cv_ref, cv_null, cv_long, cat_rf, jcv_nil, jcat_cons, jv_none, jv_int, jv_ref, jv_null, jw_rf, rf_some, rf_none, bz_0, bz_1, i1_0, i0_0, if_true, if_false, ite_self, List.nil_append, List.cons_append, Nat.reduceAdd, Nat.reduceLeDiff, Nat.zero_le, Nat.le_refl, and_self, and_true, true_and, not_true_eq_false, not_false_eq_true, reduceIte, c1, c8, h1, hgo, v1, v3, v4, hj, hc, a1]
    have hup := hdA_up (lo := lo) hw hl k (by omega)
    have hup2 := hup.2.2
    refine c_head1 (d := d) hR (hfr.wp hp) (hfr.v0 hv) hB (by omega) (by rw [hfr.nc]; omega) (by omega) (fun t' u' g' I' J' P' tb' ub' st' r1 r2 r3 r4 r5 => ?_)
    simp only [s_X4_printControlHeads_27, s_X4_printControlHeads_30, tl_some, tl_none, cv_int, cv_ref, cv_null, cv_long, cat_rf, jcv_nil, jcat_cons, jv_none, jv_int, jv_ref, jv_null, jw_rf, rf_some, rf_none, bz_0, bz_1, i1_0, i0_0, if_true, if_false, ite_self, List.nil_append, List.cons_append, Nat.reduceAdd, Nat.reduceLeDiff, Nat.zero_le, Nat.le_refl, and_self, and_true, true_and, not_true_eq_false, not_false_eq_true, reduceIte, hs, hj1]
    refine ih (k + 1) (by omega) t' u' g' I' J' P' tb' ub' st' (by omega) r1 r3 (fun t2 u2 g2 I2 J2 P2 tb2 ub2 st2 z1 z2 z3 z4 z5 => K t2 u2 g2 I2 J2 P2 tb2 ub2 st2 z1 (r2.tr z2) z3 (by omega) (fun h => z5 (r5 h)))
theorem c_heads {lo : Nat} (hlo : lo ≤ ncA A + 1) (hR : Rel sv ω t g I J P A T tb ub) (hp : WfP A) (hv : V0 A) (hB : Bd ω I A st) (hst : st + 10 < 999999) (hb : ln A + 180 ≤ 100000)
    (K : ∀ (t' u' : Nat) (g' : jG) (I' : tI) (J' : tJ) (P' : tP) (tb' ub' st' : Nat), Rel sv ω t' g' I' J' P' (hdA A lo (ncA A + 1 - lo)) T tb' ub' → Nx t u g I J P tb ub t' u' g' I' J' P' tb' ub' → Bd ω I' (hdA A lo (ncA A + 1 - lo)) st' → st' ≤ st + 6 → (RI ω I A → RI ω I' (hdA A lo (ncA A + 1 - lo))) → Q none (tv t' u' g' I' J' P')) :
    Ev sv (d + 12) (47, 0, [some (.ref (ω.1 0)), some (.int (nI lo)), none], []) (tv t u g I J P) Q := by
  have hw := hR.2.2.2.2.2.2.2.1
  have h5 := hw.2.2.1.2
  simp only [s_X4_printControlHeads_0, s_X4_printControlHeads_1, tl_some, tl_none, cv_int, cv_ref, cv_null, cv_long, cat_rf, jcv_nil, jcat_cons, jv_none, jv_int, jv_ref, jv_null, jw_rf, rf_some, rf_none, bz_0, bz_1, i1_0, i0_0, if_true, if_false, ite_self, List.nil_append, List.cons_append, Nat.reduceAdd, Nat.reduceLeDiff, Nat.zero_le, Nat.le_refl, and_self, and_true, true_and, not_true_eq_false, not_false_eq_true, reduceIte]
  exact c_heads_loop hw hR.2.2.2.2.2.2.2.2.1 hp hv hb (jv_int _) (ncA A + 1 - lo) 0 (by omega) t u g I J P tb ub st (by omega) hR hB (fun t' u' g' I' J' P' tb' ub' st' r1 r2 r3 r4 r5 => K t' u' g' I' J' P' tb' ub' st' r1 r2 r3 (by omega) r5)
/-- one foot, with its sums -/
theorem c_foot1 (hR : Rel sv ω t g I J P A T tb ub) (hp : WfP A) (hv : V0 A) (hS : WfS A) (hB : Bd ω I A st) (hs : st + 1 < 1000000) {lv : Nat} (hlv : lv ≤ ncA A) (hb : ln A + 30 ≤ 100000) {l1 : Option Value} {l3 l4 : Option Value} (hj1 : jw l1 = true)
    (K : ∀ (t' u' : Nat) (g' : jG) (I' : tI) (J' : tJ) (P' : tP) (tb' ub' st' : Nat) (l3' l4' : Option Value), Rel sv ω t' g' I' J' P' (footA A T lv) (footT A T lv) tb' ub' → Nx t u g I J P tb ub t' u' g' I' J' P' tb' ub' → Bd ω I' (footA A T lv) st' → st' ≤ st + 1 → (RI ω I A → RI ω I' (footA A T lv)) → Ev sv (d + 12) (48, 66, [some (.ref (ω.1 0)), l1, some (.int (nI lv)), l3', l4'], []) (tv t' u' g' I' J' P') Q) :
    Ev sv (d + 12) (48, 10, [some (.ref (ω.1 0)), l1, some (.int (nI lv)), l3, l4], []) (tv t u g I J P) Q := by
  have c1 := hR.1.1
  have hw := hR.2.2.2.2.2.2.2.1
  have h5 := hw.2.2.1
  have hle := gF_le A 4 (nI lv)
  have hgo := fun (Q : Option Value → jM → Prop) => c_groupOf (Q := Q) (sv := sv) (d := d + 8) (u := u) (kd := 4) (lv := nI lv) hR hp.2.2.2 (by decide)
  -- rolling and resetting, whatever was printed
  have S2 : ∀ (t' u' : Nat) (g' : jG) (I' : tI) (J' : tJ) (P' : tP) (tb' ub' st' : Nat) (l3' l4' : Option Value), Rel sv ω t' g' I' J' P' (footA A T lv) T tb' ub' → Nx t u g I J P tb ub t' u' g' I' J' P' tb' ub' → Bd ω I' (footA A T lv) st' → st' ≤ st + 1 → (RI ω I A → RI ω I' (footA A T lv)) → Ev sv (d + 12) (48, 56, [some (.ref (ω.1 0)), l1, some (.int (nI lv)), l3', l4'], []) (tv t' u' g' I' J' P') Q := by
    intro t' u' g' I' J' P' tb' ub' st' l3' l4' r1 r2 r3 r4 r5
    have c1' := r1.1.1
    have hfr := footA_fr A T lv
    simp only [s_X4_printControlFoots_56, s_X4_printControlFoots_56n, s_X4_printControlFoots_56z, s_X4_printControlFoots_57, s_X4_printControlFoots_58, tl_some, tl_none, cv_int, cv_ref, cv_null, cv_long, cat_rf, jcv_nil, jcat_cons, jv_none, jv_int, jv_ref, jv_null, jw_rf, rf_some, rf_none, bz_0, bz_1, i1_0, i0_0, if_true, if_false, ite_self, List.nil_append, List.cons_append, Nat.reduceAdd, Nat.reduceLeDiff, Nat.zero_le, Nat.le_refl, and_self, and_true, true_and, not_true_eq_false, not_false_eq_true, reduceIte, c1']
    refine c_roll (d := d + 7) (hfr.fs.ws hS) (hfr.uq hp) r1 (fun J2 z1 z2 => ?_)
    simp only [s_X4_printControlFoots_61, s_X4_printControlFoots_61n, s_X4_printControlFoots_61z, s_X4_printControlFoots_62, s_X4_printControlFoots_63, tl_some, tl_none, cv_int, cv_ref, cv_null, cv_long, cat_rf, jcv_nil, jcat_cons, jv_none, jv_int, jv_ref, jv_null, jw_rf, rf_some, rf_none, bz_0, bz_1, i1_0, i0_0, if_true, if_false, ite_self, List.nil_append, List.cons_append, Nat.reduceAdd, Nat.reduceLeDiff, Nat.zero_le, Nat.le_refl, and_self, and_true, true_and, not_true_eq_false, not_false_eq_true, reduceIte, c1']
    refine c_reset (d := d + 8) z1 (fun J3 y1 y2 => ?_)
    simp only [tl_none]
    refine K t' u' g' I' J3 P' tb' ub' st' l3' l4' ?_ ((r2.tr (Nx_J z2)).tr (Nx_J y2)) r3 r4 r5
    unfold footT
    rw [rollT_fs hfr.fs, rsT_fs hfr.fs, hfr.ns] at y1
    exact y1
  have hit := fun h => gF_hit (A := A) (kd := 4) (lv := nI lv) h
  by_cases h0 : gF A 4 (nI lv) = 0
  · have e : gR ω (gF A 4 (nI lv)) = none := by rw [h0]; rfl
    have ef : footA A T lv = A := by unfold footA; rw [h0]; rfl
    simp only [s_X4_printControlFoots_10, s_X4_printControlFoots_10n, s_X4_printControlFoots_10z, s_X4_printControlFoots_11, s_X4_printControlFoots_12, s_X4_printControlFoots_13, s_X4_printControlFoots_16, s_X4_printControlFoots_16n, s_X4_printControlFoots_16z, s_X4_printControlFoots_17, s_X4_printControlFoots_17n, s_X4_printControlFoots_17z, s_X4_printControlFoots_18n, s_X4_printControlFoots_18, s_X4_printControlFoots_18z, tl_some, tl_none, cv_int, cv_ref, cv_null, cv_long, cat_rf, jcv_nil, jcat_cons, jv_none, jv_int, jv_ref, jv_null, jw_rf, rf_some, rf_none, bz_0, bz_1, i1_0, i0_0, if_true, if_false, ite_self, List.nil_append, List.cons_append, Nat.reduceAdd, Nat.reduceLeDiff, Nat.zero_le, Nat.le_refl, and_self, and_true, true_and, not_true_eq_false, not_false_eq_true, reduceIte, c1, hgo, e, hj1]
    refine S2 t u g I J P tb ub st _ _ ?_ (Nx_I (fun _ _ => rfl)) ?_ (by omega) (fun h => ?_)
    · rw [ef]; exact hR
    · rw [ef]; exact hB
    · rw [ef]; exact h
  · obtain ⟨i, hi⟩ : ∃ i, gF A 4 (nI lv) = i + 1 := ⟨gF A 4 (nI lv) - 1, by omega⟩
    have hgi : i < ngA A := by omega
    have e : gR ω (gF A 4 (nI lv)) = some (ω.2.1 i) := by rw [hi]; rfl
    obtain ⟨g1, g2, g3, g4, g5, g6, g7, g8, g9, g10, g11, g12⟩ := hR.2.2.1.2.1 i hgi
    have hfs := fun (Q : Option Value → jM → Prop) => c_firstSum (Q := Q) (sv := sv) (d := d + 8) (u := u) (gi := i + 1) hR
    have h66 := (hit h0).1
    rw [hi] at h66
    have body : ∀ (X : Int64) (l4' : Option Value), X.toInt32 = footV A T lv → Ev sv (d + 11) (39, 0, [some (.ref (ω.1 0)), some (.ref (ω.2.1 i)), some (.long X), none, none, none], []) (tv t u g I J P) (fun r M1 => Ev sv (d + 11 + 1) (48, 56, [some (.ref (ω.1 0)), l1, some (.int (nI lv)), some (.ref (ω.2.1 i)), l4'], r.toList ++ []) M1 Q) := by
      intro X l4' hX
      have eg : (some (Value.ref (ω.2.1 i))) = some (va_rf (gR ω (i + 1))) := rfl
      have ef : footA A T lv = inBodyA A (i + 1) X.toInt32 := by unfold footA; rw [hi, hX]
      rw [eg]
      refine c_inBody (d := d) hR hp hB hs (gi := i + 1) (by omega) (fun _ => Or.inr (Or.inr h66)) (fun _ h3 => ?_) hb (fun t' u' g' I' J' P' tb' ub' st' r1 r2 r3 r4 r5 => ?_)
      · rw [h66] at h3
        exact absurd h3 (by decide)
      · rw [← ef] at r1 r3 r5
        simp only [tl_none]
        exact S2 t' u' g' I' J' P' tb' ub' st' _ _ r1 r2 r3 r4 r5
    by_cases hf : fsA A (i + 1) = 0
    · have es : sR ω (fsA A (i + 1)) = none := by rw [hf]; rfl
      obtain ⟨v1, v2, v3, v4, v5, v6, v7, v8⟩ := hR.2.1
      have hj : jin (nI lv) 6 = true := jin_nI (by omega) (by omega)
      have hc : (nI lv).toNatClampNeg = lv := nI_clamp (by omega)
      have a1 := v8 lv (by omega)
      simp only [s_X4_printControlFoots_10, s_X4_printControlFoots_10n, s_X4_printControlFoots_10z, s_X4_printControlFoots_11, s_X4_printControlFoots_12, s_X4_printControlFoots_13, s_X4_printControlFoots_16, s_X4_printControlFoots_16n, s_X4_printControlFoots_16z, s_X4_printControlFoots_17, s_X4_printControlFoots_17n, s_X4_printControlFoots_17z, s_X4_printControlFoots_18n, s_X4_printControlFoots_18, s_X4_printControlFoots_18z, s_X4_printControlFoots_21, s_X4_printControlFoots_21n, s_X4_printControlFoots_21z, s_X4_printControlFoots_22, s_X4_printControlFoots_22n, s_X4_printControlFoots_22z, s_X4_printControlFoots_23, s_X4_printControlFoots_26, s_X4_printControlFoots_29, s_X4_printControlFoots_29n, s_X4_printControlFoots_29z, s_X4_printControlFoots_31, s_X4_printControlFoots_31n, s_X4_printControlFoots_31z, s_X4_printControlFoots_32, s_X4_printControlFoots_32n, s_X4_printControlFoots_32z, s_X4_printControlFoots_33, s_X4_printControlFoots_33n, s_X4_printControlFoots_33z, s_X4_printControlFoots_35n, s_X4_printControlFoots_35, s_X4_printControlFoots_35z, s_X4_printControlFoots_38, s_X4_printControlFoots_38n, s_X4_printControlFoots_38z, s_X4_printControlFoots_39, s_X4_printControlFoots_42, s_X4_printControlFoots_43, s_X4_printControlFoots_44, s_X4_printControlFoots_45, s_X4_printControlFoots_48, s_X4_printControlFoots_48n, s_X4_printControlFoots_48z, s_X4_printControlFoots_50, s_X4_printControlFoots_53, tl_some, tl_none, cv_int, cv_ref, cv_null, cv_long, cat_rf, jcv_nil, jcat_cons, jv_none, jv_int, jv_ref, jv_null, jw_rf, rf_some, rf_none, bz_0, bz_1, i1_0, i0_0, if_true, if_false, ite_self, List.nil_append, List.cons_append, Nat.reduceAdd, Nat.reduceLeDiff, Nat.zero_le, Nat.le_refl, and_self, and_true, true_and, not_true_eq_false, not_false_eq_true, reduceIte, c1, hgo, e, hj1, g1, g5, hfs, es, v2, v5, v6, hj, hc, a1]
      refine body _ _ ?_
      unfold footV
      rw [hi, if_pos hf, Int32.toInt32_toInt64]
      by_cases h : lv = 0
      · rw [if_pos h, h, (hv 0 (Or.inl rfl)).2]
      · rw [if_neg h]
    · have hfl := fsA_le A (i + 1)
      have es : sR ω (fsA A (i + 1)) = some (ω.2.2.2.1 (fsA A (i + 1) - 1)) := if_neg hf
      obtain ⟨s1, s2, s3, s4, s5, s6⟩ := hR.2.2.2.1.2.1 (fsA A (i + 1) - 1) (by omega)
      have e1 : fsA A (i + 1) - 1 + 1 = fsA A (i + 1) := by omega
      rw [e1] at s6
      simp only [s_X4_printControlFoots_10, s_X4_printControlFoots_10n, s_X4_printControlFoots_10z, s_X4_printControlFoots_11, s_X4_printControlFoots_12, s_X4_printControlFoots_13, s_X4_printControlFoots_16, s_X4_printControlFoots_16n, s_X4_printControlFoots_16z, s_X4_printControlFoots_17, s_X4_printControlFoots_17n, s_X4_printControlFoots_17z, s_X4_printControlFoots_18n, s_X4_printControlFoots_18, s_X4_printControlFoots_18z, s_X4_printControlFoots_21, s_X4_printControlFoots_21n, s_X4_printControlFoots_21z, s_X4_printControlFoots_22, s_X4_printControlFoots_22n, s_X4_printControlFoots_22z, s_X4_printControlFoots_23, s_X4_printControlFoots_26, s_X4_printControlFoots_29, s_X4_printControlFoots_29n, s_X4_printControlFoots_29z, s_X4_printControlFoots_31, s_X4_printControlFoots_31n, s_X4_printControlFoots_31z, s_X4_printControlFoots_32, s_X4_printControlFoots_32n, s_X4_printControlFoots_32z, s_X4_printControlFoots_33, s_X4_printControlFoots_33n, s_X4_printControlFoots_33z, s_X4_printControlFoots_35n, s_X4_printControlFoots_35, s_X4_printControlFoots_35z, s_X4_printControlFoots_38, s_X4_printControlFoots_38n, s_X4_printControlFoots_38z, s_X4_printControlFoots_39, s_X4_printControlFoots_42, s_X4_printControlFoots_43, s_X4_printControlFoots_44, s_X4_printControlFoots_45, s_X4_printControlFoots_48, s_X4_printControlFoots_48n, s_X4_printControlFoots_48z, s_X4_printControlFoots_50, s_X4_printControlFoots_53, tl_some, tl_none, cv_int, cv_ref, cv_null, cv_long, cat_rf, jcv_nil, jcat_cons, jv_none, jv_int, jv_ref, jv_null, jw_rf, rf_some, rf_none, bz_0, bz_1, i1_0, i0_0, if_true, if_false, ite_self, List.nil_append, List.cons_append, Nat.reduceAdd, Nat.reduceLeDiff, Nat.zero_le, Nat.le_refl, and_self, and_true, true_and, not_true_eq_false, not_false_eq_true, reduceIte, c1, hgo, e, hj1, g1, g5, hfs, es, s1, s6]
      refine body _ _ ?_
      unfold footV
      rw [hi, if_neg hf]
end
