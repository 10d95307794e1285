-- ===== initiate =====
def ziT (T : Nat → Int64) : Nat → Nat → Int64
  | 0 => T
  | k + 1 => upT (ziT T k) (k + 1) 0
theorem ziT_ap (T : Nat → Int64) : ∀ k s, 1 ≤ s → s ≤ k → ziT T k s = 0
  | 0, s, h1, h2 => by omega
  | k + 1, s, h1, h2 => by
    show upT (ziT T k) (k + 1) 0 s = 0
    rw [upT_ap]
    by_cases h : s = k + 1
    · rw [if_pos h]
    · rw [if_neg h]; exact ziT_ap T k s h1 (by omega)
theorem ztT_ap (T : Nat → Int64) : ∀ k s, s < k → ztT T k s = 0
  | 0, s, h => by omega
  | k + 1, s, h => by
    show upT (ztT T k) k 0 s = 0
    rw [upT_ap]
    by_cases e : s = k
    · rw [if_pos e]
    · rw [if_neg e]; exact ztT_ap T k s (by omega)
theorem initA_o {A : Nat → Nat → Int32} {κ j : Nat} (h1 : κ ≠ 7) (h2 : κ ≠ 73) : initA A κ j = A κ j := by
  unfold initA
  show frs _ 21 κ j = _
  rw [frs_o _ h2]
  simp only [upA_ap, cdA, h1, false_and, if_false]
theorem initA_7 {A : Nat → Nat → Int32} (j : Nat) : initA A 7 j = upA (upA (upA (upA (upA (upA (upA (cdA A) 7 21 1) 7 22 0) 7 23 0) 7 24 0) 7 25 0) 7 26 0) 7 28 0 7 j := frs_o (κ := 7) (j := j) (upA (upA (upA (upA (upA (upA (upA (cdA A) 7 21 1) 7 22 0) 7 23 0) 7 24 0) 7 25 0) 7 26 0) 7 28 0) (by decide) 21
theorem initA_fs (A : Nat → Nat → Int32) : fs A (initA A) := (((fs_up (fs_up (fs_up (fs_up (fs_up (fs_up (fs_up (cdA_fr A).fs rfl) rfl) rfl) rfl) rfl) rfl) rfl)).tr (freshA_fr _).fs)
section
variable {sv : Nat → Value} {d t u : Nat} {Q : Option Value → jM → Prop} {g : jG} {I I' : tI} {J : tJ} {P : tP} {A B : Nat → Nat → Int32} {T T' : Nat → Int64} {ω : Wd} {tb ub st : Nat} {x y z : Int32}
theorem Rel.clear (hR : Rel sv ω t g I J P A T tb ub) : Rel sv ω t g (ups I 3 1 (ω.1 5) 0) J P (upA A 7 28 0) T tb ub := by
  obtain ⟨hC, hV1, hG, hS, hP, hD, htg, hw, hl, hs⟩ := hR
  have o : ∀ κ, κ ≠ 3 → ups I 3 1 (ω.1 5) 0 κ = I κ := fun κ h => ups_o h
  have oA : ∀ κ j, κ ≠ 7 → upA A 7 28 0 κ j = A κ j := fun κ j h => if_neg (fun q => h q.1)
  have e0 : ln (upA A 7 28 0) = 0 := rfl
  obtain ⟨p1, p2, p3, he, hc, nsh, ha, hb, p4, p5, p6, p7, p8, p9, p10, p11, p12, p13, p14⟩ := hP
  refine ⟨hC, hV1.congr (fun j => rfl) (fun j => rfl) (o 60 (by decide)) (o 61 (by decide)) rfl (gle_rf g), hG.congr (fun κ j h1 h2 => oA κ j (by omega)) rfl (fun n f h => h.congr rfl rfl (fun _ _ => rfl) (gle_rf g)) (fun k b hk => rfl) (o 62 (by decide)) rfl (gle_rf g), hS.congr (fun κ j h => oA κ j (by omega)) rfl (fun n f h => h.congr rfl rfl (fun _ _ => rfl) (gle_rf g)) (o 5 (by decide)) rfl (gle_rf g), ⟨p1, p2, ?_, he, hc, nsh, ha, hb, p4.congr rfl rfl (fun _ _ => rfl) (gle_rf g), p5, p6, p7, p8, by rw [e0]; omega, fun i hi => by rw [e0] at hi; omega, p11, p12, p13, p14⟩, hD, htg, (fs_up (fs_rf A) rfl : fs A (upA A 7 28 0)).wf hw, rfl, hs⟩
  rw [ups_ap, if_pos ⟨rfl, rfl, rfl⟩]
  rfl
theorem c_init_loop : ∀ n k, k + n = nsA A → ∀ (J : tJ), Rel sv ω t g I J P A (ziT T k) tb ub →
    (∀ J' : tJ, Rel sv ω t g I J' P A (ziT T (nsA A)) tb ub → (∀ κ, κ ≠ 5 → J' κ = J κ) → Ev sv (d + 3) (17, 56, [some (.ref (ω.1 0)), some (.int (nI (nsA A)))], []) (tv t u g I J' P) Q) →
    Ev sv (d + 3) (17, 24, [some (.ref (ω.1 0)), some (.int (nI k))], []) (tv t u g I J P) Q := by
  intro n
  induction n with
  | zero =>
    intro k hk J hR K
    have c1 := hR.1.1
    have c2 := hR.1.2.2.1
    have hLg := hR.2.2.2.1.1
    have hLg1 := hLg.1
    have hsz : I 1 2 (ω.1 2) = nI (nsA A) := hLg.2.2.1
    have h20 := hR.2.2.2.2.2.2.2.1.2.1.2
    have e : k = nsA A := by omega
    subst e
    have h1 : ¬ nI (nsA A) < nI (nsA A) := nI_nlt (by omega) (by omega)
    refine s_X4_initiate_24.mpr ?_
    simp only [s_X4_initiate_25, s_X4_initiate_25n, s_X4_initiate_25z, s_X4_initiate_26, s_X4_initiate_29, s_X4_initiate_32, tl_some, tl_none, cv_int, cv_ref, cv_null, cv_long, cat_rf, jcv_nil, jcat_cons, jv_none, jv_int, jv_ref, jv_null, jw_rf, rf_some, rf_none, bz_0, bz_1, i1_0, i0_0, if_true, if_false, ite_self, List.nil_append, List.cons_append, Nat.reduceAdd, Nat.reduceLeDiff, Nat.zero_le, Nat.le_refl, and_self, and_true, true_and, not_true_eq_false, not_false_eq_true, reduceIte, c1, c2, hLg1, l_size hLg1, hsz, h1]
    exact K J hR (fun _ _ => rfl)
  | succ n ih =>
    intro k hk J hR K
    have c1 := hR.1.1
    have c2 := hR.1.2.2.1
    have hLg := hR.2.2.2.1.1
    have hLg1 := hLg.1
    have hsz : I 1 2 (ω.1 2) = nI (nsA A) := hLg.2.2.1
    have h20 := hR.2.2.2.2.2.2.2.1.2.1.2
    have h1 : nI k < nI (nsA A) := nI_lt (by omega) (by omega)
    have hg := fun (Q : Option Value → jM → Prop) => l_get (sv := sv) (d := d) (t := t) (u := u) (Q := Q) (J := J) hLg (i := k) (by omega)
    obtain ⟨g1, g2, g3, g4, g5, g6⟩ := hR.2.2.2.1.2.1 k (by omega)
    have hs := nIs k
    refine s_X4_initiate_24.mpr ?_
    simp only [s_X4_initiate_25, s_X4_initiate_25n, s_X4_initiate_25z, s_X4_initiate_26, s_X4_initiate_29, s_X4_initiate_32, s_X4_initiate_35, s_X4_initiate_35n, s_X4_initiate_35z, s_X4_initiate_36, s_X4_initiate_39, s_X4_initiate_40, s_X4_initiate_43, s_X4_initiate_43z, s_X4_initiate_46, s_X4_initiate_47, s_X4_initiate_50, s_X4_initiate_53, tl_some, tl_none, cv_int, cv_ref, cv_null, cv_long, cat_rf, jcv_nil, jcat_cons, jv_none, jv_int, jv_ref, jv_null, jw_rf, rf_some, rf_none, bz_0, bz_1, i1_0, i0_0, if_true, if_false, ite_self, List.nil_append, List.cons_append, Nat.reduceAdd, Nat.reduceLeDiff, Nat.zero_le, Nat.le_refl, and_self, and_true, true_and, not_true_eq_false, not_false_eq_true, reduceIte, c1, c2, hLg1, l_size hLg1, hsz, h1, hg, g1, hs]
    exact ih (k + 1) (by omega) _ (hR.tot (by omega)) (fun J' r1 r2 => K J' r1 (fun κ hκ => (r2 κ hκ).trans (ups_o hκ)))
theorem c_initiate (hR : Rel sv ω t g I J P A T tb ub) (hV : Inv ω I A st)
    (K5 : ¬ A 7 21 = 0 → Q (some (.int (-5))) (tv t u g I J P))
    (K : A 7 21 = 0 → ∀ (I' : tI) (J' : tJ), Rel sv ω t g I' J' P (initA A) (ztT T 21) tb ub → Nx t u g I J P tb ub t u g I' J' P tb ub → Inv ω I' (initA A) st → Q (some (.int 1)) (tv t u g I' J' P)) :
    Ev sv (d + 4) (17, 0, [some (.ref (ω.1 0)), none], []) (tv t u g I J P) Q := by
  have c1 := hR.1.1
  have c4 := hR.1.2.2.2.1
  have c9 := hR.1.2.2.2.2.2.2.2.2.1
  have p1 := hR.2.2.2.2.1.1
  by_cases h21 : A 7 21 = 0
  · simp only [s_X4_initiate_0, s_X4_initiate_0n, s_X4_initiate_0z, s_X4_initiate_1, s_X4_initiate_4, s_X4_initiate_7, s_X4_initiate_9, s_X4_initiate_10, s_X4_initiate_10n, s_X4_initiate_10z, s_X4_initiate_11, s_X4_initiate_12, s_X4_initiate_15, s_X4_initiate_15n, s_X4_initiate_15z, s_X4_initiate_16, s_X4_initiate_19, s_X4_initiate_22, s_X4_initiate_23, s_X1_clear_0, s_X1_clear_0n, s_X1_clear_0z, s_X1_clear_1, s_X1_clear_2, s_X1_clear_5, tl_some, tl_none, cv_int, cv_ref, cv_null, cv_long, cat_rf, jcv_nil, jcat_cons, jv_none, jv_int, jv_ref, jv_null, jw_rf, rf_some, rf_none, bz_0, bz_1, i1_0, i0_0, if_true, if_false, ite_self, List.nil_append, List.cons_append, Nat.reduceAdd, Nat.reduceLeDiff, Nat.zero_le, Nat.le_refl, and_self, and_true, true_and, not_true_eq_false, not_false_eq_true, reduceIte, c1, c4, p1, c9, h21]
    have hR1 := (hR.cd.flag (v := 1)).clear
    refine c_init_loop (d := d + 1) (nsA A) 0 (by show 0 + nsA A = nsA A; omega) J hR1 (fun J' r1 r2 => ?_)
    simp only [s_X4_initiate_56, s_X4_initiate_56n, s_X4_initiate_56z, s_X4_initiate_57, s_X4_initiate_58, s_X4_initiate_61, s_X4_initiate_61n, s_X4_initiate_61z, s_X4_initiate_62, s_X4_initiate_63, s_X4_initiate_66, s_X4_initiate_66n, s_X4_initiate_66z, s_X4_initiate_67, s_X4_initiate_68, s_X4_initiate_71, s_X4_initiate_71n, s_X4_initiate_71z, s_X4_initiate_72, s_X4_initiate_73, s_X4_initiate_76, s_X4_initiate_76n, s_X4_initiate_76z, s_X4_initiate_77, s_X4_initiate_78, s_X4_initiate_81, s_X4_initiate_82, tl_some, tl_none, cv_int, cv_ref, cv_null, cv_long, cat_rf, jcv_nil, jcat_cons, jv_none, jv_int, jv_ref, jv_null, jw_rf, rf_some, rf_none, bz_0, bz_1, i1_0, i0_0, if_true, if_false, ite_self, List.nil_append, List.cons_append, Nat.reduceAdd, Nat.reduceLeDiff, Nat.zero_le, Nat.le_refl, and_self, and_true, true_and, not_true_eq_false, not_false_eq_true, reduceIte, c1]
    have hfs := initA_fs A
    have i7 := fun j => initA_7 (A := A) j
    obtain ⟨hp, hv, hS, hT, -, -, -⟩ := hV
    obtain ⟨q1, q2, q3, q4, q5, q6, q7, q8, q9, q10, q11, q12, q13⟩ := r1.1
    have fin : Rel sv ω t g (ups (ups (ups (ups (ups (ups (ups I 6 9 (ω.1 0) 1) 3 1 (ω.1 5) 0) 6 10 (ω.1 0) 0) 6 11 (ω.1 0) 0) 6 12 (ω.1 0) 0) 6 13 (ω.1 0) 0) 6 14 (ω.1 0) 0) J' P (initA A) (ziT T (nsA A)) tb ub := by
      refine r1.scal ⟨q1, q2, q3, q4, by rw [i7]; exact q5, by rw [i7]; exact q6, by rw [i7]; exact q7, by rw [i7]; exact q8, ?_, ?_, ?_, ?_, ?_⟩ (fun κ h => by rw [ups_o h, ups_o h, ups_o h, ups_o h, ups_o h]) (fun κ j h1 h2 => ?_) ?_ ?_
      · rw [i7]
        exact q9
      · rw [i7]
        show (if 6 = 6 ∧ 10 = 10 ∧ ω.1 0 = ω.1 0 then (0 : Int32) else _) = 0
        rw [if_pos ⟨rfl, rfl, rfl⟩]
      · rw [i7]
        show (if 6 = 6 ∧ 11 = 11 ∧ ω.1 0 = ω.1 0 then (0 : Int32) else _) = 0
        rw [if_pos ⟨rfl, rfl, rfl⟩]
      · rw [i7]
        show (if 6 = 6 ∧ 13 = 13 ∧ ω.1 0 = ω.1 0 then (0 : Int32) else _) = 0
        rw [if_pos ⟨rfl, rfl, rfl⟩]
      · rw [i7]
        show (if 6 = 6 ∧ 14 = 14 ∧ ω.1 0 = ω.1 0 then (0 : Int32) else _) = 0
        rw [if_pos ⟨rfl, rfl, rfl⟩]
      · rw [initA_o h1 h2]
        show A κ j = upA (upA (upA A 7 0 0) 7 21 1) 7 28 0 κ j
        rw [upA_ap, if_neg (fun q => h1 q.1), upA_ap, if_neg (fun q => h1 q.1), upA_ap, if_neg (fun q => h1 q.1)]
      · intro κ j hs
        rw [hfs κ j hs]
        show A κ j = upA (upA (upA A 7 0 0) 7 21 1) 7 28 0 κ j
        have f2 : fs A (upA (upA (upA A 7 0 0) 7 21 1) 7 28 0) := fs_up (fs_up (fs_up (fs_rf A) rfl) rfl) rfl
        exact (f2 κ j hs).symm
      · rw [i7]
        rfl
    have h20 := hR.2.2.2.2.2.2.2.1.2.1.2
    have ens : nsA (initA A) = nsA A := hfs.ns
    have e28 : initA A 7 28 = 0 := (i7 28).trans rfl
    have eln : ln (initA A) = 0 := by unfold ln; rw [e28]; rfl
    refine K h21 _ J' (fin.tcongr (fun s h1 h2 => ?_)) ?_ ⟨hfs.wp (fun j => initA_o (by decide) (by decide)) hp, fun j hj => ?_, hfs.ws hS, hT.kp rfl (fun _ => rfl) hfs.ng, ⟨0, (i7 22).trans rfl, by omega, by rw [eln]; omega, fun _ => by rw [eln]; omega⟩, fun _ => ⟨?_, 0, (i7 26).trans rfl, by omega⟩, fun _ q => absurd ((i7 22).trans rfl) q⟩
    · rw [ens] at h2
      rw [ztT_ap T 21 s (by omega), ziT_ap T _ s h1 h2]
    · have n1 : Nx t u g I J P tb ub t u g I J' P tb ub := Nx_J r2
      refine n1.tr (Nx_I (fun κ hκ => ?_))
      rw [ups_o (by omega), ups_o (by omega), ups_o (by omega), ups_o (by omega), ups_o (by omega), ups_o (by omega), ups_o (by omega)]
    · rw [initA_o (by decide) (by decide), initA_o (by decide) (by decide)]
      exact hv j (by rw [← hfs.nc]; exact hj)
    · rw [i7]
      show (if 6 = 6 ∧ 12 = 12 ∧ ω.1 0 = ω.1 0 then (0 : Int32) else _) = 0
      rw [if_pos ⟨rfl, rfl, rfl⟩]
  · simp only [s_X4_initiate_0, s_X4_initiate_0n, s_X4_initiate_0z, s_X4_initiate_1, s_X4_initiate_4, s_X4_initiate_7, s_X4_initiate_9, tl_some, tl_none, cv_int, cv_ref, cv_null, cv_long, cat_rf, jcv_nil, jcat_cons, jv_none, jv_int, jv_ref, jv_null, jw_rf, rf_some, rf_none, bz_0, bz_1, i1_0, i0_0, if_true, if_false, ite_self, List.nil_append, List.cons_append, Nat.reduceAdd, Nat.reduceLeDiff, Nat.zero_le, Nat.le_refl, and_self, and_true, true_and, not_true_eq_false, not_false_eq_true, reduceIte, c1, c9, h21]
    exact K5 h21
end
