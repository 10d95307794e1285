-- ===== generating =====
def kpA (A : Nat → Nat → Int32) : Nat → Nat → Nat → Int32
  | 0 => A
  | k + 1 => upA (kpA A k) 65 (k + 1) (A 64 (k + 1))
def keepA (A : Nat → Nat → Int32) : Nat → Nat → Int32 := kpA A (ncA A)
theorem kpA_o (A : Nat → Nat → Int32) {κ j : Nat} (h : κ ≠ 65) : ∀ k, kpA A k κ j = A κ j
  | 0 => rfl
  | k + 1 => by
    show upA (kpA A k) 65 (k + 1) _ κ j = _
    rw [upA_ap, if_neg (fun z => h z.1), kpA_o A h k]
theorem kpA_fs (A : Nat → Nat → Int32) (k : Nat) : fs A (kpA A k) := fun κ j hs => kpA_o A (fun z => by rw [z] at hs; cases hs) k
def chD (A : Nat → Nat → Int32) : Nat → Nat → Nat
  | 0, acc => acc
  | k + 1, acc => chD A k (if A 64 (k + 1) = A 65 (k + 1) then acc else k + 1)
/-- the least level that changed -/
def chA (A : Nat → Nat → Int32) : Nat := chD A (ncA A) (ncA A + 1)
theorem chD_le (A : Nat → Nat → Int32) : ∀ k acc n, k ≤ n → acc ≤ n → chD A k acc ≤ n
  | 0, acc, n, _, h => h
  | k + 1, acc, n, hk, h => by
    unfold chD
    refine chD_le A k _ n (by omega) ?_
    split <;> omega
theorem chD_pos (A : Nat → Nat → Int32) : ∀ k acc, 1 ≤ acc → 1 ≤ chD A k acc
  | 0, acc, h => h
  | k + 1, acc, h => by
    unfold chD
    refine chD_pos A k _ ?_
    split <;> omega
theorem chA_le (A : Nat → Nat → Int32) : chA A ≤ ncA A + 1 := chD_le A _ _ _ (by omega) (Nat.le_refl _)
theorem chA_pos (A : Nat → Nat → Int32) : 1 ≤ chA A := chD_pos A _ _ (by omega)
abbrev tk (A : Nat → Nat → Int32) (s : Nat) (x : Int32) : Prop := A 75 s = 0 ∨ (0 < A 75 s ∧ A 75 s = x)
/-- sums take v of the detail x -/
def adT (A : Nat → Nat → Int32) (T : Nat → Int64) (x : Int32) (v : Int64) : Nat → Nat → Int64
  | 0 => T
  | s + 1 => upT (adT A T x v s) (s + 1) (adT A T x v s (s + 1) + (if tk A (s + 1) x then v else 0))
/-- n foots from the last level up -/
def ftS (A : Nat → Nat → Int32) (T : Nat → Int64) (c : Nat) : Nat → (Nat → Nat → Int32) × (Nat → Int64)
  | 0 => (A, T)
  | n + 1 => (footA (ftS A T c n).1 (ftS A T c n).2 (c - n), footT (ftS A T c n).1 (ftS A T c n).2 (c - n))
theorem ftS_fr (A : Nat → Nat → Int32) (T : Nat → Int64) (c : Nat) : ∀ n, fr A (ftS A T c n).1
  | 0 => fr_rf A
  | n + 1 => (ftS_fr A T c n).tr (footA_fr _ _ _)
theorem ftS_up {A : Nat → Nat → Int32} {T : Nat → Int64} {c : Nat} (hw : WfA A) (hl : LnA A) : ∀ n, ln A + n * 30 ≤ 100000 → lnUp A (ftS A T c n).1 (n * 30)
  | 0, _ => (lnUp_same rfl hl).le (by omega)
  | n + 1, hb => by
    have h1 := ftS_up (A := A) (T := T) (c := c) hw hl n (by omega)
    have h2 := h1.2.2
    exact (h1.tr (footA_up ((ftS_fr A T c n).wf hw) h1.1 (by omega))).le (by omega)
section
variable {sv : Nat → Value} {d t u : Nat} {Q : Option Value → jM → Prop} {g : jG} {I : tI} {J : tJ} {P : tP} {A : Nat → Nat → Int32} {T : Nat → Int64} {m : Nat} {x y z : Int32}
theorem m_keep_loop (hL : MLay g P m) (hw : WfA A) : ∀ n k, k + n = ncA A → (Ev sv d (80, 2, [some (.ref m), some (.int (nI (k + 1)))], []) (tv t u g (ovl I m (kpA A k)) J P) Q ↔ Q none (tv t u g (ovl I m (keepA A)) J P)) := by
  obtain ⟨hm, p64, t64, n64, p65, t65, n65, p66, t66, n66, p67, t67, n67, p68, t68, n68, p69, t69, n69, p70, t70, n70, p71, t71, n71, p72, t72, n72, p73, t73, n73, p74, t74, n74, p75, t75, n75, p76, t76, n76, p77, t77, n77, p78, t78, n78⟩ := hL
  have h5 := hw.2.2.1
  intro n
  induction n with
  | zero =>
    intro k hk
    have e : k = ncA A := by omega
    have e4 : kpA A k 7 4 = nI (ncA A) := by rw [kpA_o A (by decide) k]; exact h5.1
    have h1 : nI (ncA A) < nI (k + 1) := nI_lt (by omega) (by omega)
    refine s_X5_keep_2.trans ?_
    simp only [s_X5_keep_0, s_X5_keep_1, s_X5_keep_3, s_X5_keep_3n, s_X5_keep_3z, s_X5_keep_4, s_X5_keep_7, s_X5_keep_10, s_X5_keep_10n, s_X5_keep_10z, s_X5_keep_11, s_X5_keep_14, s_X5_keep_15, s_X5_keep_15n, s_X5_keep_15z, s_X5_keep_16, s_X5_keep_19, s_X5_keep_20, s_X5_keep_21, s_X5_keep_22, s_X5_keep_25, s_X5_keep_28, tl_some, tl_none, cv_int, cv_ref, cv_null, cv_long, cat_rf, jcv_nil, jcat_cons, jv_none, jv_int, jv_ref, jv_null, jw_rf, rf_some, rf_none, bz_0, bz_1, i1_0, i0_0, if_true, if_false, ite_self, List.nil_append, List.cons_append, Nat.reduceAdd, Nat.reduceLeDiff, Nat.zero_le, Nat.le_refl, and_self, and_true, true_and, not_true_eq_false, not_false_eq_true, reduceIte, hm, p64, t64, n64, p65, t65, n65, p66, t66, n66, p67, t67, n67, p68, t68, n68, p69, t69, n69, p70, t70, n70, p71, t71, n71, p72, t72, n72, p73, t73, n73, p74, t74, n74, p75, t75, n75, p76, t76, n76, p77, t77, n77, p78, t78, n78, ovl_7, ups_ovl_7, ovl_64, ups_ovl_64, ovl_65, ups_ovl_65, ovl_66, ups_ovl_66, ovl_67, ups_ovl_67, ovl_68, ups_ovl_68, ovl_69, ups_ovl_69, ovl_70, ups_ovl_70, ovl_71, ups_ovl_71, ovl_72, ups_ovl_72, ovl_73, ups_ovl_73, ovl_74, ups_ovl_74, ovl_75, ups_ovl_75, ovl_76, ups_ovl_76, ovl_78, ups_ovl_78, ovJ_77, ups_ovJ_77, e4, h1]
    unfold keepA
    rw [e]
  | succ n ih =>
    intro k hk
    have e4 : kpA A k 7 4 = nI (ncA A) := by rw [kpA_o A (by decide) k]; exact h5.1
    have e64 : kpA A k 64 (k + 1) = A 64 (k + 1) := kpA_o A (by decide) k
    have h1 : ¬ nI (ncA A) < nI (k + 1) := nI_nlt (by omega) (by omega)
    have hj : jin (nI (k + 1)) 6 = true := jin_nI (by omega) (by omega)
    have hc : (nI (k + 1)).toNatClampNeg = k + 1 := nI_clamp (by omega)
    have hs := nIs (k + 1)
    have e : upA (kpA A k) 65 (k + 1) (A 64 (k + 1)) = kpA A (k + 1) := rfl
    refine Iff.trans ?_ (ih (k + 1) (by omega))
    refine s_X5_keep_2.trans ?_
    simp only [s_X5_keep_0, s_X5_keep_1, s_X5_keep_3, s_X5_keep_3n, s_X5_keep_3z, s_X5_keep_4, s_X5_keep_7, s_X5_keep_10, s_X5_keep_10n, s_X5_keep_10z, s_X5_keep_11, s_X5_keep_14, s_X5_keep_15, s_X5_keep_15n, s_X5_keep_15z, s_X5_keep_16, s_X5_keep_19, s_X5_keep_20, s_X5_keep_21, s_X5_keep_22, s_X5_keep_25, s_X5_keep_28, tl_some, tl_none, cv_int, cv_ref, cv_null, cv_long, cat_rf, jcv_nil, jcat_cons, jv_none, jv_int, jv_ref, jv_null, jw_rf, rf_some, rf_none, bz_0, bz_1, i1_0, i0_0, if_true, if_false, ite_self, List.nil_append, List.cons_append, Nat.reduceAdd, Nat.reduceLeDiff, Nat.zero_le, Nat.le_refl, and_self, and_true, true_and, not_true_eq_false, not_false_eq_true, reduceIte, hm, p64, t64, n64, p65, t65, n65, p66, t66, n66, p67, t67, n67, p68, t68, n68, p69, t69, n69, p70, t70, n70, p71, t71, n71, p72, t72, n72, p73, t73, n73, p74, t74, n74, p75, t75, n75, p76, t76, n76, p77, t77, n77, p78, t78, n78, ovl_7, ups_ovl_7, ovl_64, ups_ovl_64, ovl_65, ups_ovl_65, ovl_66, ups_ovl_66, ovl_67, ups_ovl_67, ovl_68, ups_ovl_68, ovl_69, ups_ovl_69, ovl_70, ups_ovl_70, ovl_71, ups_ovl_71, ovl_72, ups_ovl_72, ovl_73, ups_ovl_73, ovl_74, ups_ovl_74, ovl_75, ups_ovl_75, ovl_76, ups_ovl_76, ovl_78, ups_ovl_78, ovJ_77, ups_ovJ_77, e4, e64, h1, hj, hc, hs, e]
theorem m_keep (hL : MLay g P m) (hw : WfA A) : Ev sv d (80, 0, [some (.ref m), none], []) (tv t u g (ovl I m A) J P) Q ↔ Q none (tv t u g (ovl I m (keepA A)) J P) := by
  simp only [s_X5_keep_0, s_X5_keep_1, s_X5_keep_3, s_X5_keep_3n, s_X5_keep_3z, s_X5_keep_4, s_X5_keep_7, s_X5_keep_10, s_X5_keep_10n, s_X5_keep_10z, s_X5_keep_11, s_X5_keep_14, s_X5_keep_15, s_X5_keep_15n, s_X5_keep_15z, s_X5_keep_16, s_X5_keep_19, s_X5_keep_20, s_X5_keep_21, s_X5_keep_22, s_X5_keep_25, s_X5_keep_28, tl_some, tl_none, cv_int, cv_ref, cv_null, cv_long, cat_rf, jcv_nil, jcat_cons, jv_none, jv_int, jv_ref, jv_null, jw_rf, rf_some, rf_none, bz_0, bz_1, i1_0, i0_0, if_true, if_false, ite_self, List.nil_append, List.cons_append, Nat.reduceAdd, Nat.reduceLeDiff, Nat.zero_le, Nat.le_refl, and_self, and_true, true_and, not_true_eq_false, not_false_eq_true, reduceIte]
  exact m_keep_loop hL hw (ncA A) 0 (by omega)
theorem m_changed_loop (hL : MLay g P m) (hw : WfA A) : ∀ k acc, k ≤ ncA A → (Ev sv d (82, 12, [some (.ref m), some (.int (nI acc)), some (.int (nI k))], []) (tv t u g (ovl I m A) J P) Q ↔ Q (some (.int (nI (chD A k acc)))) (tv t u g (ovl I m A) J P)) := by
  obtain ⟨hm, p64, t64, n64, p65, t65, n65, p66, t66, n66, p67, t67, n67, p68, t68, n68, p69, t69, n69, p70, t70, n70, p71, t71, n71, p72, t72, n72, p73, t73, n73, p74, t74, n74, p75, t75, n75, p76, t76, n76, p77, t77, n77, p78, t78, n78⟩ := hL
  have h5 := hw.2.2.1.2
  intro k
  induction k with
  | zero =>
    intro acc hk
    have h1 : ¬ (0 : Int32) < 0 := by decide
    refine s_X5_changed_12.trans ?_
    simp only [s_X5_changed_0, s_X5_changed_0n, s_X5_changed_0z, s_X5_changed_1, s_X5_changed_4, s_X5_changed_5, s_X5_changed_6, s_X5_changed_7, s_X5_changed_7n, s_X5_changed_7z, s_X5_changed_8, s_X5_changed_11, s_X5_changed_13, s_X5_changed_16, s_X5_changed_16n, s_X5_changed_16z, s_X5_changed_17, s_X5_changed_20, s_X5_changed_21, s_X5_changed_22, s_X5_changed_22n, s_X5_changed_22z, s_X5_changed_23, s_X5_changed_26, s_X5_changed_27, s_X5_changed_28, s_X5_changed_31, s_X5_changed_32, s_X5_changed_35, s_X5_changed_36, s_X5_changed_37, s_X5_changed_40, s_X5_changed_43, s_X5_changed_44, tl_some, tl_none, cv_int, cv_ref, cv_null, cv_long, cat_rf, jcv_nil, jcat_cons, jv_none, jv_int, jv_ref, jv_null, jw_rf, rf_some, rf_none, bz_0, bz_1, i1_0, i0_0, if_true, if_false, ite_self, List.nil_append, List.cons_append, Nat.reduceAdd, Nat.reduceLeDiff, Nat.zero_le, Nat.le_refl, and_self, and_true, true_and, not_true_eq_false, not_false_eq_true, reduceIte, hm, p64, t64, n64, p65, t65, n65, p66, t66, n66, p67, t67, n67, p68, t68, n68, p69, t69, n69, p70, t70, n70, p71, t71, n71, p72, t72, n72, p73, t73, n73, p74, t74, n74, p75, t75, n75, p76, t76, n76, p77, t77, n77, p78, t78, n78, ovl_7, ups_ovl_7, ovl_64, ups_ovl_64, ovl_65, ups_ovl_65, ovl_66, ups_ovl_66, ovl_67, ups_ovl_67, ovl_68, ups_ovl_68, ovl_69, ups_ovl_69, ovl_70, ups_ovl_70, ovl_71, ups_ovl_71, ovl_72, ups_ovl_72, ovl_73, ups_ovl_73, ovl_74, ups_ovl_74, ovl_75, ups_ovl_75, ovl_76, ups_ovl_76, ovl_78, ups_ovl_78, ovJ_77, ups_ovJ_77, nI_0e, h1, chD]
  | succ k ih =>
    intro acc hk
    have h1 : (0 : Int32) < nI (k + 1) := nI_lt (a := 0) (by omega) (by omega)
    have hj : jin (nI (k + 1)) 6 = true := jin_nI (by omega) (by omega)
    have hc : (nI (k + 1)).toNatClampNeg = k + 1 := nI_clamp (by omega)
    unfold chD
    refine Iff.trans ?_ (ih _ (by omega))
    refine s_X5_changed_12.trans ?_
    by_cases c : A 64 (k + 1) = A 65 (k + 1)
    · simp only [s_X5_changed_0, s_X5_changed_0n, s_X5_changed_0z, s_X5_changed_1, s_X5_changed_4, s_X5_changed_5, s_X5_changed_6, s_X5_changed_7, s_X5_changed_7n, s_X5_changed_7z, s_X5_changed_8, s_X5_changed_11, s_X5_changed_13, s_X5_changed_16, s_X5_changed_16n, s_X5_changed_16z, s_X5_changed_17, s_X5_changed_20, s_X5_changed_21, s_X5_changed_22, s_X5_changed_22n, s_X5_changed_22z, s_X5_changed_23, s_X5_changed_26, s_X5_changed_27, s_X5_changed_28, s_X5_changed_31, s_X5_changed_32, s_X5_changed_35, s_X5_changed_36, s_X5_changed_37, s_X5_changed_40, s_X5_changed_43, s_X5_changed_44, tl_some, tl_none, cv_int, cv_ref, cv_null, cv_long, cat_rf, jcv_nil, jcat_cons, jv_none, jv_int, jv_ref, jv_null, jw_rf, rf_some, rf_none, bz_0, bz_1, i1_0, i0_0, if_true, if_false, ite_self, List.nil_append, List.cons_append, Nat.reduceAdd, Nat.reduceLeDiff, Nat.zero_le, Nat.le_refl, and_self, and_true, true_and, not_true_eq_false, not_false_eq_true, reduceIte, hm, p64, t64, n64, p65, t65, n65, p66, t66, n66, p67, t67, n67, p68, t68, n68, p69, t69, n69, p70, t70, n70, p71, t71, n71, p72, t72, n72, p73, t73, n73, p74, t74, n74, p75, t75, n75, p76, t76, n76, p77, t77, n77, p78, t78, n78, ovl_7, ups_ovl_7, ovl_64, ups_ovl_64, ovl_65, ups_ovl_65, ovl_66, ups_ovl_66, ovl_67, ups_ovl_67, ovl_68, ups_ovl_68, ovl_69, ups_ovl_69, ovl_70, ups_ovl_70, ovl_71, ups_ovl_71, ovl_72, ups_ovl_72, ovl_73, ups_ovl_73, ovl_74, ups_ovl_74, ovl_75, ups_ovl_75, ovl_76, ups_ovl_76, ovl_78, ups_ovl_78, ovJ_77, ups_ovJ_77, h1, hj, hc, c, nI_dec]
    · simp only [s_X5_changed_0, s_X5_changed_0n, s_X5_changed_0z, s_X5_changed_1, s_X5_changed_4, s_X5_changed_5, s_X5_changed_6, s_X5_changed_7, s_X5_changed_7n, s_X5_changed_7z, s_X5_changed_8, s_X5_changed_11, s_X5_changed_13, s_X5_changed_16, s_X5_changed_16n, s_X5_changed_16z, s_X5_changed_17, s_X5_changed_20, s_X5_changed_21, s_X5_changed_22, s_X5_changed_22n, s_X5_changed_22z, s_X5_changed_23, s_X5_changed_26, s_X5_changed_27, s_X5_changed_28, s_X5_changed_31, s_X5_changed_32, s_X5_changed_35, s_X5_changed_36, s_X5_changed_37, s_X5_changed_40, s_X5_changed_43, s_X5_changed_44, tl_some, tl_none, cv_int, cv_ref, cv_null, cv_long, cat_rf, jcv_nil, jcat_cons, jv_none, jv_int, jv_ref, jv_null, jw_rf, rf_some, rf_none, bz_0, bz_1, i1_0, i0_0, if_true, if_false, ite_self, List.nil_append, List.cons_append, Nat.reduceAdd, Nat.reduceLeDiff, Nat.zero_le, Nat.le_refl, and_self, and_true, true_and, not_true_eq_false, not_false_eq_true, reduceIte, hm, p64, t64, n64, p65, t65, n65, p66, t66, n66, p67, t67, n67, p68, t68, n68, p69, t69, n69, p70, t70, n70, p71, t71, n71, p72, t72, n72, p73, t73, n73, p74, t74, n74, p75, t75, n75, p76, t76, n76, p77, t77, n77, p78, t78, n78, ovl_7, ups_ovl_7, ovl_64, ups_ovl_64, ovl_65, ups_ovl_65, ovl_66, ups_ovl_66, ovl_67, ups_ovl_67, ovl_68, ups_ovl_68, ovl_69, ups_ovl_69, ovl_70, ups_ovl_70, ovl_71, ups_ovl_71, ovl_72, ups_ovl_72, ovl_73, ups_ovl_73, ovl_74, ups_ovl_74, ovl_75, ups_ovl_75, ovl_76, ups_ovl_76, ovl_78, ups_ovl_78, ovJ_77, ups_ovJ_77, h1, hj, hc, c, nI_dec]
theorem m_changed (hL : MLay g P m) (hw : WfA A) : Ev sv d (82, 0, [some (.ref m), none, none], []) (tv t u g (ovl I m A) J P) Q ↔ Q (some (.int (nI (chA A)))) (tv t u g (ovl I m A) J P) := by
  have hL0 := hL
  obtain ⟨hm, p64, t64, n64, p65, t65, n65, p66, t66, n66, p67, t67, n67, p68, t68, n68, p69, t69, n69, p70, t70, n70, p71, t71, n71, p72, t72, n72, p73, t73, n73, p74, t74, n74, p75, t75, n75, p76, t76, n76, p77, t77, n77, p78, t78, n78⟩ := hL
  have hs := nIs (ncA A)
  simp only [s_X5_changed_0, s_X5_changed_0n, s_X5_changed_0z, s_X5_changed_1, s_X5_changed_4, s_X5_changed_5, s_X5_changed_6, s_X5_changed_7, s_X5_changed_7n, s_X5_changed_7z, s_X5_changed_8, s_X5_changed_11, s_X5_changed_13, s_X5_changed_16, s_X5_changed_16n, s_X5_changed_16z, s_X5_changed_17, s_X5_changed_20, s_X5_changed_21, s_X5_changed_22, s_X5_changed_22n, s_X5_changed_22z, s_X5_changed_23, s_X5_changed_26, s_X5_changed_27, s_X5_changed_28, s_X5_changed_31, s_X5_changed_32, s_X5_changed_35, s_X5_changed_36, s_X5_changed_37, s_X5_changed_40, s_X5_changed_43, s_X5_changed_44, tl_some, tl_none, cv_int, cv_ref, cv_null, cv_long, cat_rf, jcv_nil, jcat_cons, jv_none, jv_int, jv_ref, jv_null, jw_rf, rf_some, rf_none, bz_0, bz_1, i1_0, i0_0, if_true, if_false, ite_self, List.nil_append, List.cons_append, Nat.reduceAdd, Nat.reduceLeDiff, Nat.zero_le, Nat.le_refl, and_self, and_true, true_and, not_true_eq_false, not_false_eq_true, reduceIte, hm, p64, t64, n64, p65, t65, n65, p66, t66, n66, p67, t67, n67, p68, t68, n68, p69, t69, n69, p70, t70, n70, p71, t71, n71, p72, t72, n72, p73, t73, n73, p74, t74, n74, p75, t75, n75, p76, t76, n76, p77, t77, n77, p78, t78, n78, ovl_7, ups_ovl_7, ovl_64, ups_ovl_64, ovl_65, ups_ovl_65, ovl_66, ups_ovl_66, ovl_67, ups_ovl_67, ovl_68, ups_ovl_68, ovl_69, ups_ovl_69, ovl_70, ups_ovl_70, ovl_71, ups_ovl_71, ovl_72, ups_ovl_72, ovl_73, ups_ovl_73, ovl_74, ups_ovl_74, ovl_75, ups_ovl_75, ovl_76, ups_ovl_76, ovl_78, ups_ovl_78, ovJ_77, ups_ovJ_77, hw.2.2.1.1, hs]
  exact m_changed_loop hL0 hw (ncA A) (ncA A + 1) (Nat.le_refl _)
theorem m_gen_heads (hL : MLay g P m) (hw : WfA A) (hl : LnA A) {l1 : Int32} {X : Int64} {l4 : Int32} {l6 : Option Value} (hb : ln A + 180 ≤ 100000) : ∀ n k, k + n = ncA A + 1 →
    (Ev sv (d + 6) (83, 67, [some (.ref m), some (.int l1), some (.long X), none, some (.int l4), some (.int (nI k)), l6], []) (tv t u g (ovl I m (hdA A 0 k)) J P) Q ↔ Ev sv (d + 6) (83, 170, [some (.ref m), some (.int l1), some (.long X), none, some (.int l4), some (.int (nI (ncA A + 1))), l6], []) (tv t u g (ovl I m (hdA A 0 (ncA A + 1))) J P) Q) := by
  have hL0 := hL
  obtain ⟨hm, p64, t64, n64, p65, t65, n65, p66, t66, n66, p67, t67, n67, p68, t68, n68, p69, t69, n69, p70, t70, n70, p71, t71, n71, p72, t72, n72, p73, t73, n73, p74, t74, n74, p75, t75, n75, p76, t76, n76, p77, t77, n77, p78, t78, n78⟩ := hL
  have h5 := hw.2.2.1
  intro n
  induction n with
  | zero =>
    intro k hk
    have e : k = ncA A + 1 := by omega
    have e4 : hdA A 0 k 7 4 = nI (ncA A) := by rw [hdA_fr A 0 k 7 4 rfl]; exact h5.1
    have h1 : nI (ncA A) < nI k := nI_lt (by omega) (by omega)
    refine s_X5_generate_67.trans ?_
    simp only [s_X5_generate_69, s_X5_generate_70, s_X5_generate_73, s_X5_generate_88, tl_some, tl_none, cv_int, cv_ref, cv_null, cv_long, cat_rf, jcv_nil, jcat_cons, jv_none, jv_int, jv_ref, jv_null, jw_rf, rf_some, rf_none, bz_0, bz_1, i1_0, i0_0, if_true, if_false, ite_self, List.nil_append, List.cons_append, Nat.reduceAdd, Nat.reduceLeDiff, Nat.zero_le, Nat.le_refl, and_self, and_true, true_and, not_true_eq_false, not_false_eq_true, reduceIte, hm, p64, t64, n64, p65, t65, n65, p66, t66, n66, p67, t67, n67, p68, t68, n68, p69, t69, n69, p70, t70, n70, p71, t71, n71, p72, t72, n72, p73, t73, n73, p74, t74, n74, p75, t75, n75, p76, t76, n76, p77, t77, n77, p78, t78, n78, ovl_7, ups_ovl_7, ovl_64, ups_ovl_64, ovl_65, ups_ovl_65, ovl_66, ups_ovl_66, ovl_67, ups_ovl_67, ovl_68, ups_ovl_68, ovl_69, ups_ovl_69, ovl_70, ups_ovl_70, ovl_71, ups_ovl_71, ovl_72, ups_ovl_72, ovl_73, ups_ovl_73, ovl_74, ups_ovl_74, ovl_75, ups_ovl_75, ovl_76, ups_ovl_76, ovl_78, ups_ovl_78, ovJ_77, ups_ovJ_77, e4, h1]
    rw [e]
  | succ n ih =>
    intro k hk
    have e4 : hdA A 0 k 7 4 = nI (ncA A) := by rw [hdA_fr A 0 k 7 4 rfl]; exact h5.1
    have h1 : ¬ nI (ncA A) < nI k := nI_nlt (by omega) (by omega)
    have hu := hdA_up (lo := 0) hw hl k (by omega)
    have hu2 := hu.2.2
    have hh := fun (Q : Option Value → jM → Prop) => m_head (Q := Q) (sv := sv) (d := d) (t := t) (u := u) (I := I) (J := J) (A := hdA A 0 k) (lv := k) hL0 ((hdA_fr A 0 k).wf hw) hu.1 (by omega) (by omega)
    have hs := nIs k
    have e : headA (hdA A 0 k) k = hdA A 0 (k + 1) := by
      show _ = headA (hdA A 0 k) (0 + k)
      rw [Nat.zero_add]
    refine Iff.trans ?_ (ih (k + 1) (by omega))
    refine s_X5_generate_67.trans ?_
    simp only [s_X5_generate_69, s_X5_generate_70, s_X5_generate_73, s_X5_generate_76, s_X5_generate_77, s_X5_generate_79, s_X5_generate_82, s_X5_generate_85, tl_some, tl_none, cv_int, cv_ref, cv_null, cv_long, cat_rf, jcv_nil, jcat_cons, jv_none, jv_int, jv_ref, jv_null, jw_rf, rf_some, rf_none, bz_0, bz_1, i1_0, i0_0, if_true, if_false, ite_self, List.nil_append, List.cons_append, Nat.reduceAdd, Nat.reduceLeDiff, Nat.zero_le, Nat.le_refl, and_self, and_true, true_and, not_true_eq_false, not_false_eq_true, reduceIte, hm, p64, t64, n64, p65, t65, n65, p66, t66, n66, p67, t67, n67, p68, t68, n68, p69, t69, n69, p70, t70, n70, p71, t71, n71, p72, t72, n72, p73, t73, n73, p74, t74, n74, p75, t75, n75, p76, t76, n76, p77, t77, n77, p78, t78, n78, ovl_7, ups_ovl_7, ovl_64, ups_ovl_64, ovl_65, ups_ovl_65, ovl_66, ups_ovl_66, ovl_67, ups_ovl_67, ovl_68, ups_ovl_68, ovl_69, ups_ovl_69, ovl_70, ups_ovl_70, ovl_71, ups_ovl_71, ovl_72, ups_ovl_72, ovl_73, ups_ovl_73, ovl_74, ups_ovl_74, ovl_75, ups_ovl_75, ovl_76, ups_ovl_76, ovl_78, ups_ovl_78, ovJ_77, ups_ovJ_77, e4, h1, hh, hs, e]
theorem m_gen_heads2 (hL : MLay g P m) (hw : WfA A) (hl : LnA A) {l1 : Int32} {X : Int64} {l4 : Int32} {c : Nat} {l5 : Int32} (hb : ln A + 180 ≤ 100000) : ∀ n k, c + k + n = ncA A + 1 →
    (Ev sv (d + 6) (83, 149, [some (.ref m), some (.int l1), some (.long X), none, some (.int l4), some (.int l5), some (.int (nI (c + k)))], []) (tv t u g (ovl I m (hdA A c k)) J P) Q ↔ Ev sv (d + 6) (83, 170, [some (.ref m), some (.int l1), some (.long X), none, some (.int l4), some (.int l5), some (.int (nI (ncA A + 1)))], []) (tv t u g (ovl I m (hdA A c (ncA A + 1 - c))) J P) Q) := by
  have hL0 := hL
  obtain ⟨hm, p64, t64, n64, p65, t65, n65, p66, t66, n66, p67, t67, n67, p68, t68, n68, p69, t69, n69, p70, t70, n70, p71, t71, n71, p72, t72, n72, p73, t73, n73, p74, t74, n74, p75, t75, n75, p76, t76, n76, p77, t77, n77, p78, t78, n78⟩ := hL
  have h5 := hw.2.2.1
  intro n
  induction n with
  | zero =>
    intro k hk
    have e : c + k = ncA A + 1 := by omega
    have e3 : ncA A + 1 - c = k := by omega
    have e4 : hdA A c k 7 4 = nI (ncA A) := by rw [hdA_fr A c k 7 4 rfl]; exact h5.1
    have h1 : nI (ncA A) < nI (c + k) := nI_lt (by omega) (by omega)
    refine s_X5_generate_149.trans ?_
    simp only [s_X5_generate_151, s_X5_generate_152, s_X5_generate_155, tl_some, tl_none, cv_int, cv_ref, cv_null, cv_long, cat_rf, jcv_nil, jcat_cons, jv_none, jv_int, jv_ref, jv_null, jw_rf, rf_some, rf_none, bz_0, bz_1, i1_0, i0_0, if_true, if_false, ite_self, List.nil_append, List.cons_append, Nat.reduceAdd, Nat.reduceLeDiff, Nat.zero_le, Nat.le_refl, and_self, and_true, true_and, not_true_eq_false, not_false_eq_true, reduceIte, hm, p64, t64, n64, p65, t65, n65, p66, t66, n66, p67, t67, n67, p68, t68, n68, p69, t69, n69, p70, t70, n70, p71, t71, n71, p72, t72, n72, p73, t73, n73, p74, t74, n74, p75, t75, n75, p76, t76, n76, p77, t77, n77, p78, t78, n78, ovl_7, ups_ovl_7, ovl_64, ups_ovl_64, ovl_65, ups_ovl_65, ovl_66, ups_ovl_66, ovl_67, ups_ovl_67, ovl_68, ups_ovl_68, ovl_69, ups_ovl_69, ovl_70, ups_ovl_70, ovl_71, ups_ovl_71, ovl_72, ups_ovl_72, ovl_73, ups_ovl_73, ovl_74, ups_ovl_74, ovl_75, ups_ovl_75, ovl_76, ups_ovl_76, ovl_78, ups_ovl_78, ovJ_77, ups_ovJ_77, e4, h1]
    rw [e, e3]
  | succ n ih =>
    intro k hk
    have e4 : hdA A c k 7 4 = nI (ncA A) := by rw [hdA_fr A c k 7 4 rfl]; exact h5.1
    have h1 : ¬ nI (ncA A) < nI (c + k) := nI_nlt (by omega) (by omega)
    have hu := hdA_up (lo := c) hw hl k (by omega)
    have hu2 := hu.2.2
    have hh := fun (Q : Option Value → jM → Prop) => m_head (Q := Q) (sv := sv) (d := d) (t := t) (u := u) (I := I) (J := J) (A := hdA A c k) (lv := c + k) hL0 ((hdA_fr A c k).wf hw) hu.1 (by omega) (by omega)
    have hs := nIs (c + k)
    have e : headA (hdA A c k) (c + k) = hdA A c (k + 1) := rfl
    refine Iff.trans ?_ (ih (k + 1) (by omega))
    refine s_X5_generate_149.trans ?_
    simp only [s_X5_generate_151, s_X5_generate_152, s_X5_generate_155, s_X5_generate_158, s_X5_generate_159, s_X5_generate_161, s_X5_generate_164, s_X5_generate_167, tl_some, tl_none, cv_int, cv_ref, cv_null, cv_long, cat_rf, jcv_nil, jcat_cons, jv_none, jv_int, jv_ref, jv_null, jw_rf, rf_some, rf_none, bz_0, bz_1, i1_0, i0_0, if_true, if_false, ite_self, List.nil_append, List.cons_append, Nat.reduceAdd, Nat.reduceLeDiff, Nat.zero_le, Nat.le_refl, and_self, and_true, true_and, not_true_eq_false, not_false_eq_true, reduceIte, hm, p64, t64, n64, p65, t65, n65, p66, t66, n66, p67, t67, n67, p68, t68, n68, p69, t69, n69, p70, t70, n70, p71, t71, n71, p72, t72, n72, p73, t73, n73, p74, t74, n74, p75, t75, n75, p76, t76, n76, p77, t77, n77, p78, t78, n78, ovl_7, ups_ovl_7, ovl_64, ups_ovl_64, ovl_65, ups_ovl_65, ovl_66, ups_ovl_66, ovl_67, ups_ovl_67, ovl_68, ups_ovl_68, ovl_69, ups_ovl_69, ovl_70, ups_ovl_70, ovl_71, ups_ovl_71, ovl_72, ups_ovl_72, ovl_73, ups_ovl_73, ovl_74, ups_ovl_74, ovl_75, ups_ovl_75, ovl_76, ups_ovl_76, ovl_78, ups_ovl_78, ovJ_77, ups_ovJ_77, e4, h1, hh, hs, e]
    rfl
theorem m_gen_foots (hL : MLay g P m) (hw : WfA A) (hl : LnA A) {l1 : Int32} {X : Int64} {l4 : Int32} {c : Nat} (hc1 : 1 ≤ c) (hb : ln A + 180 ≤ 100000) : ∀ n k, c + n = ncA A + 1 - k → k ≤ ncA A →
    (Ev sv (d + 6) (83, 122, [some (.ref m), some (.int l1), some (.long X), none, some (.int l4), some (.int (nI c)), some (.int (nI (ncA A - k)))], []) (tv t u g (ovl I m (ftS A T (ncA A) k).1) (ovJ J m (ftS A T (ncA A) k).2) P) Q ↔ Ev sv (d + 6) (83, 141, [some (.ref m), some (.int l1), some (.long X), none, some (.int l4), some (.int (nI c)), some (.int (nI (c - 1)))], []) (tv t u g (ovl I m (ftS A T (ncA A) (ncA A + 1 - c)).1) (ovJ J m (ftS A T (ncA A) (ncA A + 1 - c)).2) P) Q) := by
  have hL0 := hL
  obtain ⟨hm, p64, t64, n64, p65, t65, n65, p66, t66, n66, p67, t67, n67, p68, t68, n68, p69, t69, n69, p70, t70, n70, p71, t71, n71, p72, t72, n72, p73, t73, n73, p74, t74, n74, p75, t75, n75, p76, t76, n76, p77, t77, n77, p78, t78, n78⟩ := hL
  have h5 := hw.2.2.1
  intro n
  induction n with
  | zero =>
    intro k hk hk2
    have e : ncA A - k = c - 1 := by omega
    have e2 : ncA A + 1 - c = k := by omega
    have h1 : nI (ncA A - k) < nI c := nI_lt (by omega) (by omega)
    refine s_X5_generate_122.trans ?_
    simp only [s_X5_generate_124, s_X5_generate_126, tl_some, tl_none, cv_int, cv_ref, cv_null, cv_long, cat_rf, jcv_nil, jcat_cons, jv_none, jv_int, jv_ref, jv_null, jw_rf, rf_some, rf_none, bz_0, bz_1, i1_0, i0_0, if_true, if_false, ite_self, List.nil_append, List.cons_append, Nat.reduceAdd, Nat.reduceLeDiff, Nat.zero_le, Nat.le_refl, and_self, and_true, true_and, not_true_eq_false, not_false_eq_true, reduceIte, hm, p64, t64, n64, p65, t65, n65, p66, t66, n66, p67, t67, n67, p68, t68, n68, p69, t69, n69, p70, t70, n70, p71, t71, n71, p72, t72, n72, p73, t73, n73, p74, t74, n74, p75, t75, n75, p76, t76, n76, p77, t77, n77, p78, t78, n78, ovl_7, ups_ovl_7, ovl_64, ups_ovl_64, ovl_65, ups_ovl_65, ovl_66, ups_ovl_66, ovl_67, ups_ovl_67, ovl_68, ups_ovl_68, ovl_69, ups_ovl_69, ovl_70, ups_ovl_70, ovl_71, ups_ovl_71, ovl_72, ups_ovl_72, ovl_73, ups_ovl_73, ovl_74, ups_ovl_74, ovl_75, ups_ovl_75, ovl_76, ups_ovl_76, ovl_78, ups_ovl_78, ovJ_77, ups_ovJ_77, h1]
    rw [e, e2]
  | succ n ih =>
    intro k hk hk2
    have h1 : ¬ nI (ncA A - k) < nI c := nI_nlt (by omega) (by omega)
    have hu := ftS_up (T := T) (c := ncA A) hw hl k (by omega)
    have hu2 := hu.2.2
    have hh := fun (Q : Option Value → jM → Prop) => m_foot (Q := Q) (sv := sv) (d := d) (t := t) (u := u) (I := I) (J := J) (A := (ftS A T (ncA A) k).1) (T := (ftS A T (ncA A) k).2) (lv := ncA A - k) hL0 ((ftS_fr A T (ncA A) k).wf hw) hu.1 (by omega) (by omega)
    have hs : nI (ncA A - k) + (-1 : Int32) = nI (ncA A - (k + 1)) := by
      have e9 : ncA A - k = ncA A - (k + 1) + 1 := by omega
      rw [e9]
      exact nI_dec _
    refine Iff.trans ?_ (ih (k + 1) (by omega) (by omega))
    refine s_X5_generate_122.trans ?_
    simp only [s_X5_generate_124, s_X5_generate_126, s_X5_generate_129, s_X5_generate_130, s_X5_generate_132, s_X5_generate_135, s_X5_generate_138, tl_some, tl_none, cv_int, cv_ref, cv_null, cv_long, cat_rf, jcv_nil, jcat_cons, jv_none, jv_int, jv_ref, jv_null, jw_rf, rf_some, rf_none, bz_0, bz_1, i1_0, i0_0, if_true, if_false, ite_self, List.nil_append, List.cons_append, Nat.reduceAdd, Nat.reduceLeDiff, Nat.zero_le, Nat.le_refl, and_self, and_true, true_and, not_true_eq_false, not_false_eq_true, reduceIte, hm, p64, t64, n64, p65, t65, n65, p66, t66, n66, p67, t67, n67, p68, t68, n68, p69, t69, n69, p70, t70, n70, p71, t71, n71, p72, t72, n72, p73, t73, n73, p74, t74, n74, p75, t75, n75, p76, t76, n76, p77, t77, n77, p78, t78, n78, ovl_7, ups_ovl_7, ovl_64, ups_ovl_64, ovl_65, ups_ovl_65, ovl_66, ups_ovl_66, ovl_67, ups_ovl_67, ovl_68, ups_ovl_68, ovl_69, ups_ovl_69, ovl_70, ups_ovl_70, ovl_71, ups_ovl_71, ovl_72, ups_ovl_72, ovl_73, ups_ovl_73, ovl_74, ups_ovl_74, ovl_75, ups_ovl_75, ovl_76, ups_ovl_76, ovl_78, ups_ovl_78, ovJ_77, ups_ovJ_77, h1, hh, hs]
    rfl
theorem m_gen_sums (hL : MLay g P m) (hw : WfA A) {l1 : Int32} {X : Int64} {l4 : Int32} {l6 : Option Value} : ∀ n s, s + n = nsA A →
    (Ev sv d (83, 187, [some (.ref m), some (.int l1), some (.long X), none, some (.int l4), some (.int (nI (s + 1))), l6], []) (tv t u g (ovl I m A) (ovJ J m (adT A T l1 X s)) P) Q ↔ Ev sv d (83, 248, [some (.ref m), some (.int l1), some (.long X), none, some (.int l4), some (.int (nI (nsA A + 1))), l6], []) (tv t u g (ovl I m A) (ovJ J m (adT A T l1 X (nsA A))) P) Q) := by
  obtain ⟨hm, p64, t64, n64, p65, t65, n65, p66, t66, n66, p67, t67, n67, p68, t68, n68, p69, t69, n69, p70, t70, n70, p71, t71, n71, p72, t72, n72, p73, t73, n73, p74, t74, n74, p75, t75, n75, p76, t76, n76, p77, t77, n77, p78, t78, n78⟩ := hL
  have h20 := hw.2.1
  intro n
  induction n with
  | zero =>
    intro s hs
    have e : s = nsA A := by omega
    have h1 : nI (nsA A) < nI (s + 1) := nI_lt (by omega) (by omega)
    refine s_X5_generate_187.trans ?_
    simp only [s_X5_generate_189, s_X5_generate_190, s_X5_generate_193, tl_some, tl_none, cv_int, cv_ref, cv_null, cv_long, cat_rf, jcv_nil, jcat_cons, jv_none, jv_int, jv_ref, jv_null, jw_rf, rf_some, rf_none, bz_0, bz_1, i1_0, i0_0, if_true, if_false, ite_self, List.nil_append, List.cons_append, Nat.reduceAdd, Nat.reduceLeDiff, Nat.zero_le, Nat.le_refl, and_self, and_true, true_and, not_true_eq_false, not_false_eq_true, reduceIte, hm, p64, t64, n64, p65, t65, n65, p66, t66, n66, p67, t67, n67, p68, t68, n68, p69, t69, n69, p70, t70, n70, p71, t71, n71, p72, t72, n72, p73, t73, n73, p74, t74, n74, p75, t75, n75, p76, t76, n76, p77, t77, n77, p78, t78, n78, ovl_7, ups_ovl_7, ovl_64, ups_ovl_64, ovl_65, ups_ovl_65, ovl_66, ups_ovl_66, ovl_67, ups_ovl_67, ovl_68, ups_ovl_68, ovl_69, ups_ovl_69, ovl_70, ups_ovl_70, ovl_71, ups_ovl_71, ovl_72, ups_ovl_72, ovl_73, ups_ovl_73, ovl_74, ups_ovl_74, ovl_75, ups_ovl_75, ovl_76, ups_ovl_76, ovl_78, ups_ovl_78, ovJ_77, ups_ovJ_77, h20.1, h1]
    rw [e]
  | succ n ih =>
    intro s hs
    have h1 : ¬ nI (nsA A) < nI (s + 1) := nI_nlt (by omega) (by omega)
    have hj : jin (nI (s + 1)) 21 = true := jin_nI (by omega) (by omega)
    have hc : (nI (s + 1)).toNatClampNeg = s + 1 := nI_clamp (by omega)
    have hss := nIs (s + 1)
    refine Iff.trans ?_ (ih (s + 1) (by omega))
    refine s_X5_generate_187.trans ?_
    by_cases c : tk A (s + 1) l1
    · have e : adT A T l1 X (s + 1) = upT (adT A T l1 X s) (s + 1) (adT A T l1 X s (s + 1) + X) := by
        show upT _ _ (_ + (if tk A (s + 1) l1 then _ else 0)) = _
        rw [if_pos c]
      by_cases c1 : A 75 (s + 1) = 0
      · simp only [s_X5_generate_189, s_X5_generate_190, s_X5_generate_193, s_X5_generate_196, s_X5_generate_197, s_X5_generate_200, s_X5_generate_202, s_X5_generate_203, s_X5_generate_204, s_X5_generate_205, s_X5_generate_208, s_X5_generate_210, s_X5_generate_211, s_X5_generate_235, s_X5_generate_236, s_X5_generate_240, s_X5_generate_241, s_X5_generate_242, s_X5_generate_245, tl_some, tl_none, cv_int, cv_ref, cv_null, cv_long, cat_rf, jcv_nil, jcat_cons, jv_none, jv_int, jv_ref, jv_null, jw_rf, rf_some, rf_none, bz_0, bz_1, i1_0, i0_0, if_true, if_false, ite_self, List.nil_append, List.cons_append, Nat.reduceAdd, Nat.reduceLeDiff, Nat.zero_le, Nat.le_refl, and_self, and_true, true_and, not_true_eq_false, not_false_eq_true, reduceIte, hm, p64, t64, n64, p65, t65, n65, p66, t66, n66, p67, t67, n67, p68, t68, n68, p69, t69, n69, p70, t70, n70, p71, t71, n71, p72, t72, n72, p73, t73, n73, p74, t74, n74, p75, t75, n75, p76, t76, n76, p77, t77, n77, p78, t78, n78, ovl_7, ups_ovl_7, ovl_64, ups_ovl_64, ovl_65, ups_ovl_65, ovl_66, ups_ovl_66, ovl_67, ups_ovl_67, ovl_68, ups_ovl_68, ovl_69, ups_ovl_69, ovl_70, ups_ovl_70, ovl_71, ups_ovl_71, ovl_72, ups_ovl_72, ovl_73, ups_ovl_73, ovl_74, ups_ovl_74, ovl_75, ups_ovl_75, ovl_76, ups_ovl_76, ovl_78, ups_ovl_78, ovJ_77, ups_ovJ_77, h20.1, h1, hj, hc, hss, c1, e]
      · have c2 : 0 < A 75 (s + 1) ∧ A 75 (s + 1) = l1 := c.resolve_left c1
        have c3 := c2.1
        have c4 := c2.2
        rw [c4] at c1 c3
        simp only [s_X5_generate_189, s_X5_generate_190, s_X5_generate_193, s_X5_generate_196, s_X5_generate_197, s_X5_generate_200, s_X5_generate_202, s_X5_generate_203, s_X5_generate_204, s_X5_generate_205, s_X5_generate_208, s_X5_generate_210, s_X5_generate_211, s_X5_generate_214, s_X5_generate_215, s_X5_generate_218, s_X5_generate_220, s_X5_generate_221, s_X5_generate_224, s_X5_generate_225, s_X5_generate_228, s_X5_generate_230, s_X5_generate_231, s_X5_generate_232, s_X5_generate_235, s_X5_generate_236, s_X5_generate_240, s_X5_generate_241, s_X5_generate_242, s_X5_generate_245, tl_some, tl_none, cv_int, cv_ref, cv_null, cv_long, cat_rf, jcv_nil, jcat_cons, jv_none, jv_int, jv_ref, jv_null, jw_rf, rf_some, rf_none, bz_0, bz_1, i1_0, i0_0, if_true, if_false, ite_self, List.nil_append, List.cons_append, Nat.reduceAdd, Nat.reduceLeDiff, Nat.zero_le, Nat.le_refl, and_self, and_true, true_and, not_true_eq_false, not_false_eq_true, reduceIte, hm, p64, t64, n64, p65, t65, n65, p66, t66, n66, p67, t67, n67, p68, t68, n68, p69, t69, n69, p70, t70, n70, p71, t71, n71, p72, t72, n72, p73, t73, n73, p74, t74, n74, p75, t75, n75, p76, t76, n76, p77, t77, n77, p78, t78, n78, ovl_7, ups_ovl_7, ovl_64, ups_ovl_64, ovl_65, ups_ovl_65, ovl_66, ups_ovl_66, ovl_67, ups_ovl_67, ovl_68, ups_ovl_68, ovl_69, ups_ovl_69, ovl_70, ups_ovl_70, ovl_71, ups_ovl_71, ovl_72, ups_ovl_72, ovl_73, ups_ovl_73, ovl_74, ups_ovl_74, ovl_75, ups_ovl_75, ovl_76, ups_ovl_76, ovl_78, ups_ovl_78, ovJ_77, ups_ovJ_77, h20.1, h1, hj, hc, hss, c4, c1, c3, e]
    · have e : adT A T l1 X (s + 1) = upT (adT A T l1 X s) (s + 1) (adT A T l1 X s (s + 1) + 0) := by
        show upT _ _ (_ + (if tk A (s + 1) l1 then _ else 0)) = _
        rw [if_neg c]
      have c1 : ¬ A 75 (s + 1) = 0 := fun z => c (Or.inl z)
      by_cases c3 : 0 < A 75 (s + 1)
      · have c4 : ¬ A 75 (s + 1) = l1 := fun z => c (Or.inr ⟨c3, z⟩)
        simp only [s_X5_generate_189, s_X5_generate_190, s_X5_generate_193, s_X5_generate_196, s_X5_generate_197, s_X5_generate_200, s_X5_generate_202, s_X5_generate_203, s_X5_generate_204, s_X5_generate_205, s_X5_generate_208, s_X5_generate_210, s_X5_generate_211, s_X5_generate_214, s_X5_generate_215, s_X5_generate_218, s_X5_generate_220, s_X5_generate_221, s_X5_generate_224, s_X5_generate_225, s_X5_generate_228, s_X5_generate_230, s_X5_generate_231, s_X5_generate_232, s_X5_generate_239, s_X5_generate_240, s_X5_generate_241, s_X5_generate_242, s_X5_generate_245, tl_some, tl_none, cv_int, cv_ref, cv_null, cv_long, cat_rf, jcv_nil, jcat_cons, jv_none, jv_int, jv_ref, jv_null, jw_rf, rf_some, rf_none, bz_0, bz_1, i1_0, i0_0, if_true, if_false, ite_self, List.nil_append, List.cons_append, Nat.reduceAdd, Nat.reduceLeDiff, Nat.zero_le, Nat.le_refl, and_self, and_true, true_and, not_true_eq_false, not_false_eq_true, reduceIte, hm, p64, t64, n64, p65, t65, n65, p66, t66, n66, p67, t67, n67, p68, t68, n68, p69, t69, n69, p70, t70, n70, p71, t71, n71, p72, t72, n72, p73, t73, n73, p74, t74, n74, p75, t75, n75, p76, t76, n76, p77, t77, n77, p78, t78, n78, ovl_7, ups_ovl_7, ovl_64, ups_ovl_64, ovl_65, ups_ovl_65, ovl_66, ups_ovl_66, ovl_67, ups_ovl_67, ovl_68, ups_ovl_68, ovl_69, ups_ovl_69, ovl_70, ups_ovl_70, ovl_71, ups_ovl_71, ovl_72, ups_ovl_72, ovl_73, ups_ovl_73, ovl_74, ups_ovl_74, ovl_75, ups_ovl_75, ovl_76, ups_ovl_76, ovl_78, ups_ovl_78, ovJ_77, ups_ovJ_77, h20.1, h1, hj, hc, hss, c4, c1, c3, e]
      · simp only [s_X5_generate_189, s_X5_generate_190, s_X5_generate_193, s_X5_generate_196, s_X5_generate_197, s_X5_generate_200, s_X5_generate_202, s_X5_generate_203, s_X5_generate_204, s_X5_generate_205, s_X5_generate_208, s_X5_generate_210, s_X5_generate_211, s_X5_generate_214, s_X5_generate_215, s_X5_generate_218, s_X5_generate_220, s_X5_generate_221, s_X5_generate_239, s_X5_generate_240, s_X5_generate_241, s_X5_generate_242, s_X5_generate_245, tl_some, tl_none, cv_int, cv_ref, cv_null, cv_long, cat_rf, jcv_nil, jcat_cons, jv_none, jv_int, jv_ref, jv_null, jw_rf, rf_some, rf_none, bz_0, bz_1, i1_0, i0_0, if_true, if_false, ite_self, List.nil_append, List.cons_append, Nat.reduceAdd, Nat.reduceLeDiff, Nat.zero_le, Nat.le_refl, and_self, and_true, true_and, not_true_eq_false, not_false_eq_true, reduceIte, hm, p64, t64, n64, p65, t65, n65, p66, t66, n66, p67, t67, n67, p68, t68, n68, p69, t69, n69, p70, t70, n70, p71, t71, n71, p72, t72, n72, p73, t73, n73, p74, t74, n74, p75, t75, n75, p76, t76, n76, p77, t77, n77, p78, t78, n78, ovl_7, ups_ovl_7, ovl_64, ups_ovl_64, ovl_65, ups_ovl_65, ovl_66, ups_ovl_66, ovl_67, ups_ovl_67, ovl_68, ups_ovl_68, ovl_69, ups_ovl_69, ovl_70, ups_ovl_70, ovl_71, ups_ovl_71, ovl_72, ups_ovl_72, ovl_73, ups_ovl_73, ovl_74, ups_ovl_74, ovl_75, ups_ovl_75, ovl_76, ups_ovl_76, ovl_78, ups_ovl_78, ovJ_77, ups_ovJ_77, h20.1, h1, hj, hc, hss, c1, c3, e]
end
