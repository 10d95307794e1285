-- ===== the state as a mathematical value: A by kinds and places (7: the object's fields; 64 .. 78: its arrays), T the totals =====
def ln (A : Nat → Nat → Int32) : Nat := (A 7 28).toNatClampNeg
def ngA (A : Nat → Nat → Int32) : Nat := (A 7 5).toNatClampNeg
def nsA (A : Nat → Nat → Int32) : Nat := (A 7 6).toNatClampNeg
def ncA (A : Nat → Nat → Int32) : Nat := (A 7 4).toNatClampNeg
def mnA (A : Nat → Nat → Int32) (i : Nat) : Nat := (A 68 i).toNatClampNeg
/-- its numbers are in their bounds -/
def WfA (A : Nat → Nat → Int32) : Prop := (A 7 5 = nI (ngA A) ∧ ngA A ≤ 20) ∧ (A 7 6 = nI (nsA A) ∧ nsA A ≤ 20) ∧ (A 7 4 = nI (ncA A) ∧ ncA A ≤ 5) ∧ (∀ i, A 68 i = nI (mnA A i) ∧ mnA A i ≤ 10) ∧ ∀ s, 1 ≤ s → s ≤ nsA A → A 74 s = nI (A 74 s).toNatClampNeg ∧ 1 ≤ (A 74 s).toNatClampNeg ∧ (A 74 s).toNatClampNeg ≤ ngA A
/-- how many lines there are -/
def LnA (A : Nat → Nat → Int32) : Prop := A 7 28 = nI (ln A)
/-- what printing may change -/
def sB (κ j : Nat) : Bool := κ == 78 || (κ == 71 || (κ == 73 || (κ == 7 && (j == 0 || (j == 24 || (j == 25 || (j == 26 || j == 28)))))))
def fr (A B : Nat → Nat → Int32) : Prop := ∀ κ j, sB κ j = false → B κ j = A κ j
theorem fr_rf (A : Nat → Nat → Int32) : fr A A := fun _ _ _ => rfl
theorem fr.tr {A B C : Nat → Nat → Int32} (h : fr A B) (h2 : fr B C) : fr A C := fun κ j hs => (h2 κ j hs).trans (h κ j hs)
theorem fr_up {A B : Nat → Nat → Int32} {κ j : Nat} {v : Int32} (h : fr A B) (hs : sB κ j = true) : fr A (upA B κ j v) := fun κ' j' h' => by
  rw [upA_ap, if_neg (fun z => by rw [z.1, z.2, hs] at h'; cases h')]
  exact h κ' j' h'
theorem fr.ng {A B : Nat → Nat → Int32} (h : fr A B) : ngA B = ngA A := by unfold ngA; rw [h 7 5 rfl]
theorem fr.ns {A B : Nat → Nat → Int32} (h : fr A B) : nsA B = nsA A := by unfold nsA; rw [h 7 6 rfl]
theorem fr.nc {A B : Nat → Nat → Int32} (h : fr A B) : ncA B = ncA A := by unfold ncA; rw [h 7 4 rfl]
theorem fr.mn {A B : Nat → Nat → Int32} (h : fr A B) (i : Nat) : mnA B i = mnA A i := by unfold mnA; rw [h 68 i rfl]
theorem fr.wf {A B : Nat → Nat → Int32} (h : fr A B) (hw : WfA A) : WfA B := by
  obtain ⟨h1, h2, h3, h4, h5⟩ := hw
  refine ⟨by rw [h.ng, h 7 5 rfl]; exact h1, by rw [h.ns, h 7 6 rfl]; exact h2, by rw [h.nc, h 7 4 rfl]; exact h3, fun i => by rw [h.mn, h 68 i rfl]; exact h4 i, fun s h6 h7 => ?_⟩
  rw [h 74 s rfl, h.ng]
  exact h5 s h6 (by rw [← h.ns]; exact h7)
/-- a line is printed -/
def putA (A : Nat → Nat → Int32) (gi : Nat) (k a v : Int32) : Nat → Nat → Int32 := upA (upA (upA (upA (upA (upA (upA A 78 (5 * ln A) (A 7 24)) 78 (5 * ln A + 1) a) 78 (5 * ln A + 2) (nI gi)) 78 (5 * ln A + 3) k) 78 (5 * ln A + 4) v) 7 28 (nI (ln A + 1))) 7 25 a
theorem putA_fr {A B : Nat → Nat → Int32} {gi : Nat} {k a v : Int32} (h : fr A B) : fr A (putA B gi k a v) := by
  unfold putA
  exact fr_up (fr_up (fr_up (fr_up (fr_up (fr_up (fr_up h rfl) rfl) rfl) rfl) rfl) rfl) rfl
theorem putA_28 {A : Nat → Nat → Int32} {gi : Nat} {k a v : Int32} : putA A gi k a v 7 28 = nI (ln A + 1) := rfl
theorem putA_25 {A : Nat → Nat → Int32} {gi : Nat} {k a v : Int32} : putA A gi k a v 7 25 = a := rfl
theorem putA_ln {A : Nat → Nat → Int32} {gi : Nat} {k a v : Int32} (h : ln A < 100000) : ln (putA A gi k a v) = ln A + 1 := by
  show (putA A gi k a v 7 28).toNatClampNeg = _
  rw [putA_28, nI_clamp (by omega)]
/-- where the k-th line stands -/
def lat (A : Nat → Nat → Int32) (gi : Nat) (top : Int32) : Nat → Int32
  | 0 => top
  | k + 1 => lat A gi top k + A 69 (10 * gi + (k + 1))
/-- the first k lines are printed -/
def pAllA (A : Nat → Nat → Int32) (gi : Nat) (top v : Int32) : Nat → Nat → Nat → Int32
  | 0 => A
  | k + 1 => putA (pAllA A gi top v k) gi (nI k) (lat A gi top k) v
theorem pAllA_fr {A : Nat → Nat → Int32} {gi : Nat} {top v : Int32} : ∀ k, fr A (pAllA A gi top v k)
  | 0 => fr_rf A
  | k + 1 => putA_fr (pAllA_fr k)
theorem pAllA_ln {A : Nat → Nat → Int32} {gi : Nat} {top v : Int32} : ∀ k, ln A + k ≤ 100000 → ln (pAllA A gi top v k) = ln A + k
  | 0, _ => rfl
  | k + 1, h => by
    have e := pAllA_ln (A := A) (gi := gi) (top := top) (v := v) k (by omega)
    show ln (putA (pAllA A gi top v k) gi (nI k) (lat A gi top k) v) = _
    rw [putA_ln (by omega), e]
    omega
theorem pAllA_LnA {A : Nat → Nat → Int32} {gi : Nat} {top v : Int32} (hl : LnA A) : ∀ k, ln A + k ≤ 100000 → LnA (pAllA A gi top v k)
  | 0, _ => hl
  | k + 1, h => by
    unfold LnA
    rw [pAllA_ln (k + 1) h]
    show nI (ln (pAllA A gi top v k) + 1) = _
    rw [pAllA_ln k (by omega)]
    rfl
def putAllA (A : Nat → Nat → Int32) (gi : Nat) (top v : Int32) : Nat → Nat → Int32 := pAllA A gi top v (mnA A gi)
section
variable {sv : Nat → Value} {d t u : Nat} {Q : Option Value → jM → Prop} {g : jG} {I : tI} {J : tJ} {P : tP} {A : Nat → Nat → Int32} {T : Nat → Int64} {m : Nat} {x y z : Int32}
theorem m_put (hL : MLay g P m) (hl : LnA A) (hb : ln A < 100000) {gi : Nat} {k a v : Int32} : Ev sv d (67, 0, [some (.ref m), some (.int (nI gi)), some (.int k), some (.int a), some (.int v)], []) (tv t u g (ovl I m A) J P) Q ↔ Q none (tv t u g (ovl I m (putA A gi k a v)) J P) := by
  obtain ⟨hm, p64, t64, n64, p65, t65, n65, p66, t66, n66, p67, t67, n67, p68, t68, n68, p69, t69, n69, p70, t70, n70, p71, t71, n71, p72, t72, n72, p73, t73, n73, p74, t74, n74, p75, t75, n75, p76, t76, n76, p77, t77, n77, p78, t78, n78⟩ := hL
  have hl' : A 7 28 = nI (ln A) := hl
  generalize hn : ln A = n at hl' hb
  have e5 : (5 : Int32) * nI n = nI (5 * n) := nI_mul 5 n
  have a1 : nI (5 * n) + 1 = nI (5 * n + 1) := nI_add _ 1
  have a2 : nI (5 * n) + 2 = nI (5 * n + 2) := nI_add _ 2
  have a3 : nI (5 * n) + 3 = nI (5 * n + 3) := nI_add _ 3
  have a4 : nI (5 * n) + 4 = nI (5 * n + 4) := nI_add _ 4
  have c0 : (nI (5 * n)).toNatClampNeg = 5 * n := nI_clamp (by omega)
  have c1 : (nI (5 * n + 1)).toNatClampNeg = 5 * n + 1 := nI_clamp (by omega)
  have c2 : (nI (5 * n + 2)).toNatClampNeg = 5 * n + 2 := nI_clamp (by omega)
  have c3 : (nI (5 * n + 3)).toNatClampNeg = 5 * n + 3 := nI_clamp (by omega)
  have c4 : (nI (5 * n + 4)).toNatClampNeg = 5 * n + 4 := nI_clamp (by omega)
  have j0 : jin (nI (5 * n)) 500000 = true := jin_nI (by omega) (by omega)
  have j1 : jin (nI (5 * n + 1)) 500000 = true := jin_nI (by omega) (by omega)
  have j2 : jin (nI (5 * n + 2)) 500000 = true := jin_nI (by omega) (by omega)
  have j3 : jin (nI (5 * n + 3)) 500000 = true := jin_nI (by omega) (by omega)
  have j4 : jin (nI (5 * n + 4)) 500000 = true := jin_nI (by omega) (by omega)
  have rd : ∀ (B : Nat → Nat → Int32) (j : Nat) (w : Int32) (k : Nat), upA B 78 j w 7 k = B 7 k := fun B j w k => if_neg (fun z => absurd z.1 (by decide))
  have rs : nI n + 1 = nI (n + 1) := nIs n
  simp only [s_X5_put_0, s_X5_put_0n, s_X5_put_0z, s_X5_put_1, s_X5_put_4, s_X5_put_5, s_X5_put_5n, s_X5_put_5z, s_X5_put_6, s_X5_put_9, s_X5_put_10, s_X5_put_10n, s_X5_put_10z, s_X5_put_11, s_X5_put_14, s_X5_put_15, s_X5_put_15n, s_X5_put_15z, s_X5_put_16, s_X5_put_19, s_X5_put_20, s_X5_put_20n, s_X5_put_20z, s_X5_put_21, s_X5_put_24, s_X5_put_25, s_X5_put_26, s_X5_put_27, s_X5_put_28, s_X5_put_29, s_X5_put_29n, s_X5_put_29z, s_X5_put_30, s_X5_put_33, s_X5_put_34, s_X5_put_34n, s_X5_put_34z, s_X5_put_35, s_X5_put_38, s_X5_put_39, s_X5_put_40, s_X5_put_41, s_X5_put_42, s_X5_put_43, s_X5_put_43n, s_X5_put_43z, s_X5_put_44, s_X5_put_47, s_X5_put_48, s_X5_put_48n, s_X5_put_48z, s_X5_put_49, s_X5_put_52, s_X5_put_53, s_X5_put_54, s_X5_put_55, s_X5_put_56, s_X5_put_57, s_X5_put_57n, s_X5_put_57z, s_X5_put_58, s_X5_put_61, s_X5_put_62, s_X5_put_62n, s_X5_put_62z, s_X5_put_63, s_X5_put_66, s_X5_put_67, s_X5_put_68, s_X5_put_69, s_X5_put_71, s_X5_put_72, s_X5_put_72n, s_X5_put_72z, s_X5_put_73, s_X5_put_74, s_X5_put_77, s_X5_put_78, s_X5_put_79, s_X5_put_82, s_X5_put_82n, s_X5_put_82z, s_X5_put_83, s_X5_put_84, s_X5_put_87, tl_some, tl_none, cv_int, cv_ref, cv_null, cv_long, cat_rf, jcv_nil, jcat_cons, jv_none, jv_int, jv_ref, jv_null, jw_rf, rf_some, rf_none, bz_0, bz_1, i1_0, i0_0, if_true, if_false, ite_self, List.nil_append, List.cons_append, Nat.reduceAdd, Nat.reduceLeDiff, Nat.zero_le, Nat.le_refl, and_self, and_true, true_and, not_true_eq_false, not_false_eq_true, reduceIte, hm, p64, t64, n64, p65, t65, n65, p66, t66, n66, p67, t67, n67, p68, t68, n68, p69, t69, n69, p70, t70, n70, p71, t71, n71, p72, t72, n72, p73, t73, n73, p74, t74, n74, p75, t75, n75, p76, t76, n76, p77, t77, n77, p78, t78, n78, ovl_7, ups_ovl_7, ovl_64, ups_ovl_64, ovl_65, ups_ovl_65, ovl_66, ups_ovl_66, ovl_67, ups_ovl_67, ovl_68, ups_ovl_68, ovl_69, ups_ovl_69, ovl_70, ups_ovl_70, ovl_71, ups_ovl_71, ovl_72, ups_ovl_72, ovl_73, ups_ovl_73, ovl_74, ups_ovl_74, ovl_75, ups_ovl_75, ovl_76, ups_ovl_76, ovl_78, ups_ovl_78, ovJ_77, ups_ovJ_77, rd, hl', e5, a1, a2, a3, a4, c0, c1, c2, c3, c4, j0, j1, j2, j3, j4, rs]
  unfold putA
  rw [hn]
theorem m_putAll_loop (hL : MLay g P m) (hw : WfA A) (hl : LnA A) {gi : Nat} {top v : Int32} (hg1 : 1 ≤ gi) (hg : gi ≤ ngA A) (hb : ln A + mnA A gi ≤ 100000) : ∀ n k, k + n = mnA A gi →
    (Ev sv (d + 1) (69, 6, [some (.ref m), some (.int (nI gi)), some (.int top), some (.int v), some (.int (match k with | 0 => top | k + 1 => lat A gi top k)), some (.int (nI k))], []) (tv t u g (ovl I m (pAllA A gi top v k)) J P) Q ↔ Q none (tv t u g (ovl I m (putAllA A gi top v)) J P)) := by
  have hL0 := hL
  obtain ⟨hm, p64, t64, n64, p65, t65, n65, p66, t66, n66, p67, t67, n67, p68, t68, n68, p69, t69, n69, p70, t70, n70, p71, t71, n71, p72, t72, n72, p73, t73, n73, p74, t74, n74, p75, t75, n75, p76, t76, n76, p77, t77, n77, p78, t78, n78⟩ := hL
  have h20 := hw.1.2
  have hmn := hw.2.2.2.1 gi
  have hjg : jin (nI gi) 21 = true := jin_nI (by omega) (by omega)
  have hcg : (nI gi).toNatClampNeg = gi := nI_clamp (by omega)
  intro n
  induction n with
  | zero =>
    intro k hk
    have e : k = mnA A gi := by omega
    have e68 : pAllA A gi top v k 68 gi = nI k := by rw [pAllA_fr k 68 gi rfl, e]; exact hmn.1
    have h1 : ¬ nI k < nI k := nI_nlt (Nat.le_refl k) (by omega)
    refine s_X5_putAll_6.trans ?_
    simp only [s_X5_putAll_0, s_X5_putAll_1, s_X5_putAll_3, s_X5_putAll_4, s_X5_putAll_8, s_X5_putAll_8n, s_X5_putAll_8z, s_X5_putAll_9, s_X5_putAll_12, s_X5_putAll_13, s_X5_putAll_14, s_X5_putAll_17, s_X5_putAll_19, s_X5_putAll_21, s_X5_putAll_24, s_X5_putAll_25, s_X5_putAll_28, s_X5_putAll_28n, s_X5_putAll_28z, s_X5_putAll_29, s_X5_putAll_32, s_X5_putAll_34, s_X5_putAll_35, s_X5_putAll_36, s_X5_putAll_38, s_X5_putAll_39, s_X5_putAll_40, s_X5_putAll_41, s_X5_putAll_43, s_X5_putAll_43n, s_X5_putAll_43z, s_X5_putAll_44, s_X5_putAll_45, s_X5_putAll_47, s_X5_putAll_49, s_X5_putAll_50, s_X5_putAll_53, s_X5_putAll_56, s_X5_putAll_59, tl_some, tl_none, cv_int, cv_ref, cv_null, cv_long, cat_rf, jcv_nil, jcat_cons, jv_none, jv_int, jv_ref, jv_null, jw_rf, rf_some, rf_none, bz_0, bz_1, i1_0, i0_0, if_true, if_false, ite_self, List.nil_append, List.cons_append, Nat.reduceAdd, Nat.reduceLeDiff, Nat.zero_le, Nat.le_refl, and_self, and_true, true_and, not_true_eq_false, not_false_eq_true, reduceIte, hm, p64, t64, n64, p65, t65, n65, p66, t66, n66, p67, t67, n67, p68, t68, n68, p69, t69, n69, p70, t70, n70, p71, t71, n71, p72, t72, n72, p73, t73, n73, p74, t74, n74, p75, t75, n75, p76, t76, n76, p77, t77, n77, p78, t78, n78, ovl_7, ups_ovl_7, ovl_64, ups_ovl_64, ovl_65, ups_ovl_65, ovl_66, ups_ovl_66, ovl_67, ups_ovl_67, ovl_68, ups_ovl_68, ovl_69, ups_ovl_69, ovl_70, ups_ovl_70, ovl_71, ups_ovl_71, ovl_72, ups_ovl_72, ovl_73, ups_ovl_73, ovl_74, ups_ovl_74, ovl_75, ups_ovl_75, ovl_76, ups_ovl_76, ovl_78, ups_ovl_78, ovJ_77, ups_ovJ_77, hjg, hcg, e68, h1]
    unfold putAllA
    rw [e]
  | succ n ih =>
    intro k hk
    have e68 : pAllA A gi top v k 68 gi = nI (mnA A gi) := by rw [pAllA_fr k 68 gi rfl]; exact hmn.1
    have h1 : nI k < nI (mnA A gi) := nI_lt (by omega) (by omega)
    have hle : ln (pAllA A gi top v k) = ln A + k := pAllA_ln k (by omega)
    refine Iff.trans ?_ (ih (k + 1) (by omega))
    refine s_X5_putAll_6.trans ?_
    cases k with
    | zero =>
      have e0 : (nI 0 : Int32) = 0 := rfl
      have h1' : (0 : Int32) < nI (mnA A gi) := h1
      have hp := fun (Q : Option Value → jM → Prop) (k a w : Int32) => m_put (sv := sv) (d := d) (t := t) (u := u) (g := g) (I := I) (J := J) (P := P) (Q := Q) (k := k) (a := a) (v := w) (gi := gi) (A := pAllA A gi top v 0) hL0 (pAllA_LnA hl 0 (by omega)) (by omega)
      simp only [s_X5_putAll_0, s_X5_putAll_1, s_X5_putAll_3, s_X5_putAll_4, s_X5_putAll_8, s_X5_putAll_8n, s_X5_putAll_8z, s_X5_putAll_9, s_X5_putAll_12, s_X5_putAll_13, s_X5_putAll_14, s_X5_putAll_17, s_X5_putAll_19, s_X5_putAll_21, s_X5_putAll_24, s_X5_putAll_25, s_X5_putAll_28, s_X5_putAll_28n, s_X5_putAll_28z, s_X5_putAll_29, s_X5_putAll_32, s_X5_putAll_34, s_X5_putAll_35, s_X5_putAll_36, s_X5_putAll_38, s_X5_putAll_39, s_X5_putAll_40, s_X5_putAll_41, s_X5_putAll_43, s_X5_putAll_43n, s_X5_putAll_43z, s_X5_putAll_44, s_X5_putAll_45, s_X5_putAll_47, s_X5_putAll_49, s_X5_putAll_50, s_X5_putAll_53, s_X5_putAll_56, s_X5_putAll_59, tl_some, tl_none, cv_int, cv_ref, cv_null, cv_long, cat_rf, jcv_nil, jcat_cons, jv_none, jv_int, jv_ref, jv_null, jw_rf, rf_some, rf_none, bz_0, bz_1, i1_0, i0_0, if_true, if_false, ite_self, List.nil_append, List.cons_append, Nat.reduceAdd, Nat.reduceLeDiff, Nat.zero_le, Nat.le_refl, and_self, and_true, true_and, not_true_eq_false, not_false_eq_true, reduceIte, hm, p64, t64, n64, p65, t65, n65, p66, t66, n66, p67, t67, n67, p68, t68, n68, p69, t69, n69, p70, t70, n70, p71, t71, n71, p72, t72, n72, p73, t73, n73, p74, t74, n74, p75, t75, n75, p76, t76, n76, p77, t77, n77, p78, t78, n78, ovl_7, ups_ovl_7, ovl_64, ups_ovl_64, ovl_65, ups_ovl_65, ovl_66, ups_ovl_66, ovl_67, ups_ovl_67, ovl_68, ups_ovl_68, ovl_69, ups_ovl_69, ovl_70, ups_ovl_70, ovl_71, ups_ovl_71, ovl_72, ups_ovl_72, ovl_73, ups_ovl_73, ovl_74, ups_ovl_74, ovl_75, ups_ovl_75, ovl_76, ups_ovl_76, ovl_78, ups_ovl_78, ovJ_77, ups_ovJ_77, hjg, hcg, e68, h1', e0, Int32.add_zero, hp]
      rfl
    | succ k =>
      have h0 : ¬ nI (k + 1) = 0 := fun z => absurd ((nI_eq (a := k + 1) (b := 0) (by omega) (by omega)).mp z) (by omega)
      have e10 : (10 : Int32) * nI gi = nI (10 * gi) := nI_mul 10 gi
      have ea : nI (10 * gi) + nI (k + 1) = nI (10 * gi + (k + 1)) := nI_add _ _
      have hj2 : jin (nI (10 * gi + (k + 1))) 210 = true := jin_nI (by omega) (by omega)
      have hc2 : (nI (10 * gi + (k + 1))).toNatClampNeg = 10 * gi + (k + 1) := nI_clamp (by omega)
      have e69 : pAllA A gi top v (k + 1) 69 (10 * gi + (k + 1)) = A 69 (10 * gi + (k + 1)) := pAllA_fr (k + 1) 69 _ rfl
      have hs := nIs (k + 1)
      have hp := fun (Q : Option Value → jM → Prop) (k1 a w : Int32) => m_put (sv := sv) (d := d) (t := t) (u := u) (g := g) (I := I) (J := J) (P := P) (Q := Q) (k := k1) (a := a) (v := w) (gi := gi) (A := pAllA A gi top v (k + 1)) hL0 (pAllA_LnA hl (k + 1) (by omega)) (by omega)
      simp only [s_X5_putAll_0, s_X5_putAll_1, s_X5_putAll_3, s_X5_putAll_4, s_X5_putAll_8, s_X5_putAll_8n, s_X5_putAll_8z, s_X5_putAll_9, s_X5_putAll_12, s_X5_putAll_13, s_X5_putAll_14, s_X5_putAll_17, s_X5_putAll_19, s_X5_putAll_21, s_X5_putAll_24, s_X5_putAll_25, s_X5_putAll_28, s_X5_putAll_28n, s_X5_putAll_28z, s_X5_putAll_29, s_X5_putAll_32, s_X5_putAll_34, s_X5_putAll_35, s_X5_putAll_36, s_X5_putAll_38, s_X5_putAll_39, s_X5_putAll_40, s_X5_putAll_41, s_X5_putAll_43, s_X5_putAll_43n, s_X5_putAll_43z, s_X5_putAll_44, s_X5_putAll_45, s_X5_putAll_47, s_X5_putAll_49, s_X5_putAll_50, s_X5_putAll_53, s_X5_putAll_56, s_X5_putAll_59, tl_some, tl_none, cv_int, cv_ref, cv_null, cv_long, cat_rf, jcv_nil, jcat_cons, jv_none, jv_int, jv_ref, jv_null, jw_rf, rf_some, rf_none, bz_0, bz_1, i1_0, i0_0, if_true, if_false, ite_self, List.nil_append, List.cons_append, Nat.reduceAdd, Nat.reduceLeDiff, Nat.zero_le, Nat.le_refl, and_self, and_true, true_and, not_true_eq_false, not_false_eq_true, reduceIte, hm, p64, t64, n64, p65, t65, n65, p66, t66, n66, p67, t67, n67, p68, t68, n68, p69, t69, n69, p70, t70, n70, p71, t71, n71, p72, t72, n72, p73, t73, n73, p74, t74, n74, p75, t75, n75, p76, t76, n76, p77, t77, n77, p78, t78, n78, ovl_7, ups_ovl_7, ovl_64, ups_ovl_64, ovl_65, ups_ovl_65, ovl_66, ups_ovl_66, ovl_67, ups_ovl_67, ovl_68, ups_ovl_68, ovl_69, ups_ovl_69, ovl_70, ups_ovl_70, ovl_71, ups_ovl_71, ovl_72, ups_ovl_72, ovl_73, ups_ovl_73, ovl_74, ups_ovl_74, ovl_75, ups_ovl_75, ovl_76, ups_ovl_76, ovl_78, ups_ovl_78, ovJ_77, ups_ovJ_77, hjg, hcg, e68, h1, h0, e10, ea, hj2, hc2, e69, hs, hp]
      rfl
theorem m_putAll (hL : MLay g P m) (hw : WfA A) (hl : LnA A) {gi : Nat} {top v : Int32} (hg1 : 1 ≤ gi) (hg : gi ≤ ngA A) (hb : ln A + mnA A gi ≤ 100000) : Ev sv (d + 1) (69, 0, [some (.ref m), some (.int (nI gi)), some (.int top), some (.int v), none, none], []) (tv t u g (ovl I m A) J P) Q ↔ Q none (tv t u g (ovl I m (putAllA A gi top v)) J P) := by
  simp only [s_X5_putAll_0, s_X5_putAll_1, s_X5_putAll_3, s_X5_putAll_4, s_X5_putAll_8, s_X5_putAll_8n, s_X5_putAll_8z, s_X5_putAll_9, s_X5_putAll_12, s_X5_putAll_13, s_X5_putAll_14, s_X5_putAll_17, s_X5_putAll_19, s_X5_putAll_21, s_X5_putAll_24, s_X5_putAll_25, s_X5_putAll_28, s_X5_putAll_28n, s_X5_putAll_28z, s_X5_putAll_29, s_X5_putAll_32, s_X5_putAll_34, s_X5_putAll_35, s_X5_putAll_36, s_X5_putAll_38, s_X5_putAll_39, s_X5_putAll_40, s_X5_putAll_41, s_X5_putAll_43, s_X5_putAll_43n, s_X5_putAll_43z, s_X5_putAll_44, s_X5_putAll_45, s_X5_putAll_47, s_X5_putAll_49, s_X5_putAll_50, s_X5_putAll_53, s_X5_putAll_56, s_X5_putAll_59, tl_some, tl_none, cv_int, cv_ref, cv_null, cv_long, cat_rf, jcv_nil, jcat_cons, jv_none, jv_int, jv_ref, jv_null, jw_rf, rf_some, rf_none, bz_0, bz_1, i1_0, i0_0, if_true, if_false, ite_self, List.nil_append, List.cons_append, Nat.reduceAdd, Nat.reduceLeDiff, Nat.zero_le, Nat.le_refl, and_self, and_true, true_and, not_true_eq_false, not_false_eq_true, reduceIte]
  exact m_putAll_loop hL hw hl hg1 hg hb (mnA A gi) 0 (by omega)
end
