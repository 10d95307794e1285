-- ===== the reference's calls: generate, terminate, initiate =====
/-- the lines of a generating, ahead of the sums -/
def gen1A (A : Nat → Nat → Int32) : Nat → Nat → Int32 := hdA (beginA (aloneA A 0)) 0 (ncA A + 1)
def brkA (A : Nat → Nat → Int32) : Nat → Nat → Int32 := upA A 7 23 (A 7 23 + 1)
def gen2 (A : Nat → Nat → Int32) (T : Nat → Int64) (c : Nat) : (Nat → Nat → Int32) × (Nat → Int64) := (hdA (freshA (ftS (brkA A) T (ncA A) (ncA A + 1 - c)).1) c (ncA A + 1 - c), (ftS (brkA A) T (ncA A) (ncA A + 1 - c)).2)
def genP (A : Nat → Nat → Int32) (T : Nat → Int64) : (Nat → Nat → Int32) × (Nat → Int64) := if A 7 22 = 0 then (gen1A A, T) else if chA A ≤ ncA A then gen2 A T (chA A) else (A, T)
def genB (A : Nat → Nat → Int32) : Nat → Nat → Int32 := upA (keepA A) 7 22 (keepA A 7 22 + 1)
def genA (A : Nat → Nat → Int32) (T : Nat → Int64) (det : Nat) (X : Int64) : Nat → Nat → Int32 := inBodyA (genB (genP A T).1) det X.toInt32
def genT (A : Nat → Nat → Int32) (T : Nat → Int64) (det : Nat) (X : Int64) : Nat → Int64 := adT (genB (genP A T).1) (genP A T).2 (nI det) X (nsA A)
theorem beg_al_fr (A : Nat → Nat → Int32) : fr A (beginA (aloneA A 0)) := (aloneA_fr A 0).tr (beginA_fr _)
theorem gen1A_fr (A : Nat → Nat → Int32) : fr A (gen1A A) := (beg_al_fr A).tr (hdA_fr _ _ _)
theorem brkA_fs (A : Nat → Nat → Int32) : fs A (brkA A) := fs_up (fs_rf A) rfl
theorem gen2_fs (A : Nat → Nat → Int32) (T : Nat → Int64) (c : Nat) : fs A (gen2 A T c).1 := (brkA_fs A).tr (((ftS_fr _ _ _ _).tr (freshA_fr _)).tr (hdA_fr _ _ _)).fs
theorem genP_fs (A : Nat → Nat → Int32) (T : Nat → Int64) : fs A (genP A T).1 := by
  unfold genP
  split
  · exact (gen1A_fr A).fs
  · split
    · exact gen2_fs A T _
    · exact fs_rf A
theorem genB_fs (A : Nat → Nat → Int32) : fs A (genB A) := fs_up (kpA_fs A _) rfl
theorem genA_fs (A : Nat → Nat → Int32) (T : Nat → Int64) (det : Nat) (X : Int64) : fs A (genA A T det X) := (genP_fs A T).tr ((genB_fs _).tr (inBodyA_fr _ _ _).fs)
theorem gen1A_up {A : Nat → Nat → Int32} (hw : WfA A) (hl : LnA A) (hb : ln A + 200 ≤ 100000) : lnUp A (gen1A A) 200 := by
  have h5 := hw.2.2.1.2
  have h1 := aloneA_up (kd := 0) hw hl (by omega)
  have h2 := h1.2.2
  have w1 := (aloneA_fr A 0).wf hw
  have h3 := h1.tr (beginA_up w1 h1.1 (by omega))
  have h4 := h3.2.2
  have w2 := (beginA_fr (aloneA A 0)).wf w1
  exact (h3.tr (hdA_up (lo := 0) w2 h3.1 (ncA A + 1) (by omega))).le (by omega)
theorem gen2_up {A : Nat → Nat → Int32} {T : Nat → Int64} {c : Nat} (hw : WfA A) (hl : LnA A) (hc : 1 ≤ c) (hb : ln A + 300 ≤ 100000) : lnUp A (gen2 A T c).1 300 := by
  have h5 := hw.2.2.1.2
  have h0 : lnUp A (brkA A) 0 := lnUp_same rfl hl
  have h00 := h0.2.2
  have w0 := (brkA_fs A).wf hw
  have h1 := h0.tr (ftS_up (T := T) (c := ncA A) w0 h0.1 (ncA A + 1 - c) (by omega))
  have h2 := h1.2.2
  have w1 := (ftS_fr (brkA A) T (ncA A) (ncA A + 1 - c)).wf w0
  have h3 := h1.tr (lnUp_same (B := freshA _) (frs_28 _ 21) h1.1)
  have h4 := h3.2.2
  have w2 := (freshA_fr (ftS (brkA A) T (ncA A) (ncA A + 1 - c)).1).wf w1
  exact (h3.tr (hdA_up (lo := c) w2 h3.1 (ncA A + 1 - c) (by omega))).le (by omega)
theorem genP_up {A : Nat → Nat → Int32} {T : Nat → Int64} (hw : WfA A) (hl : LnA A) (hb : ln A + 300 ≤ 100000) : lnUp A (genP A T).1 300 := by
  unfold genP
  split
  · exact (gen1A_up hw hl (by omega)).le (by omega)
  · split
    · exact gen2_up hw hl (chA_pos A) hb
    · exact (lnUp_same rfl hl).le (by omega)
theorem genB_28 (A : Nat → Nat → Int32) : genB A 7 28 = A 7 28 := kpA_o A (by decide) _
theorem genA_up {A : Nat → Nat → Int32} {T : Nat → Int64} {det : Nat} {X : Int64} (hw : WfA A) (hl : LnA A) (hb : ln A + 330 ≤ 100000) : lnUp A (genA A T det X) 330 := by
  have h1 := genP_up (T := T) hw hl (by omega)
  have h2 := h1.2.2
  have h3 := h1.tr (lnUp_same (genB_28 _) h1.1)
  have h4 := h3.2.2
  exact (h3.tr (inBodyA_up (((genP_fs A T).tr (genB_fs _)).wf hw) h3.1 (by omega))).le (by omega)
section
variable {sv : Nat → Value} {d t u : Nat} {Q : Option Value → jM → Prop} {g : jG} {I : tI} {J : tJ} {P : tP} {A : Nat → Nat → Int32} {T : Nat → Int64} {m : Nat} {x y z : Int32}
/-- from the keeping of the values on -/
theorem m_gen_tail (hL : MLay g P m) (hw : WfA A) (hl : LnA A) {det : Nat} {X : Int64} {l4 : Int32} {l5 l6 : Option Value} (hd : det ≤ ngA A) (hb : ln A + 30 ≤ 100000) :
    Ev sv (d + 6) (83, 170, [some (.ref m), some (.int (nI det)), some (.long X), none, some (.int l4), l5, l6], []) (tv t u g (ovl I m A) (ovJ J m T) P) Q ↔ Q (some (.int (inBodyA (genB A) det X.toInt32 7 28 - l4))) (tv t u g (ovl I m (inBodyA (genB A) det X.toInt32)) (ovJ J m (adT (genB A) T (nI det) X (nsA A))) P) := by
  have hL0 := hL
  obtain ⟨hm, p64, t64, n64, p65, t65, n65, p66, t66, n66, p67, t67, n67, p68, t68, n68, p69, t69, n69, p70, t70, n70, p71, t71, n71, p72, t72, n72, p73, t73, n73, p74, t74, n74, p75, t75, n75, p76, t76, n76, p77, t77, n77, p78, t78, n78⟩ := hL
  have h20 := hw.1.2
  have hfs := genB_fs A
  have hw2 := hfs.wf hw
  have hl2 := lnUp_same (genB_28 A) hl
  have hl22 := hl2.2.2
  have eB : upA (keepA A) 7 22 (keepA A 7 22 + 1) = genB A := rfl
  have hsum := m_gen_sums (sv := sv) (d := d + 6) (t := t) (u := u) (g := g) (I := I) (J := J) (P := P) (Q := Q) (T := T) (A := genB A) (l1 := nI det) (X := X) (l4 := l4) (l6 := l6) hL0 hw2 (nsA (genB A)) 0 (by omega)
  simp only [s_X5_generate_170, s_X5_generate_171, s_X5_generate_174, s_X5_generate_175, s_X5_generate_176, s_X5_generate_179, s_X5_generate_180, s_X5_generate_181, s_X5_generate_184, s_X5_generate_185, tl_some, tl_none, cv_int, cv_ref, cv_null, cv_long, cat_rf, jcv_nil, jcat_cons, jv_none, jv_int, jv_ref, jv_null, jw_rf, rf_some, rf_none, bz_0, bz_1, i1_0, i0_0, if_true, if_false, ite_self, List.nil_append, List.cons_append, Nat.reduceAdd, Nat.reduceLeDiff, Nat.zero_le, Nat.le_refl, and_self, and_true, true_and, not_true_eq_false, not_false_eq_true, reduceIte, hm, p64, t64, n64, p65, t65, n65, p66, t66, n66, p67, t67, n67, p68, t68, n68, p69, t69, n69, p70, t70, n70, p71, t71, n71, p72, t72, n72, p73, t73, n73, p74, t74, n74, p75, t75, n75, p76, t76, n76, p77, t77, n77, p78, t78, n78, ovl_7, ups_ovl_7, ovl_64, ups_ovl_64, ovl_65, ups_ovl_65, ovl_66, ups_ovl_66, ovl_67, ups_ovl_67, ovl_68, ups_ovl_68, ovl_69, ups_ovl_69, ovl_70, ups_ovl_70, ovl_71, ups_ovl_71, ovl_72, ups_ovl_72, ovl_73, ups_ovl_73, ovl_74, ups_ovl_74, ovl_75, ups_ovl_75, ovl_76, ups_ovl_76, ovl_78, ups_ovl_78, ovJ_77, ups_ovJ_77, m_keep hL0 hw, eB]
  refine hsum.trans ?_
  rw [hfs.ns]
  by_cases h0 : det = 0
  · subst h0
    have e0 : inBodyA (genB A) 0 X.toInt32 = genB A := rfl
    simp only [s_X5_generate_248, s_X5_generate_249, s_X5_generate_259, s_X5_generate_260, s_X5_generate_263, s_X5_generate_265, s_X5_generate_266, tl_some, tl_none, cv_int, cv_ref, cv_null, cv_long, cat_rf, jcv_nil, jcat_cons, jv_none, jv_int, jv_ref, jv_null, jw_rf, rf_some, rf_none, bz_0, bz_1, i1_0, i0_0, if_true, if_false, ite_self, List.nil_append, List.cons_append, Nat.reduceAdd, Nat.reduceLeDiff, Nat.zero_le, Nat.le_refl, and_self, and_true, true_and, not_true_eq_false, not_false_eq_true, reduceIte, hm, p64, t64, n64, p65, t65, n65, p66, t66, n66, p67, t67, n67, p68, t68, n68, p69, t69, n69, p70, t70, n70, p71, t71, n71, p72, t72, n72, p73, t73, n73, p74, t74, n74, p75, t75, n75, p76, t76, n76, p77, t77, n77, p78, t78, n78, ovl_7, ups_ovl_7, ovl_64, ups_ovl_64, ovl_65, ups_ovl_65, ovl_66, ups_ovl_66, ovl_67, ups_ovl_67, ovl_68, ups_ovl_68, ovl_69, ups_ovl_69, ovl_70, ups_ovl_70, ovl_71, ups_ovl_71, ovl_72, ups_ovl_72, ovl_73, ups_ovl_73, ovl_74, ups_ovl_74, ovl_75, ups_ovl_75, ovl_76, ups_ovl_76, ovl_78, ups_ovl_78, ovJ_77, ups_ovJ_77, nI_0e, e0]
  · have h1 := nIz h0 (by omega)
    have hib := fun (Q : Option Value → jM → Prop) (v : Int32) => m_inBody (Q := Q) (v := v) (sv := sv) (d := d + 1) (t := t) (u := u) (I := I) (J := ovJ J m (adT (genB A) T (nI det) X (nsA A))) (gi := det) hL0 hw2 hl2.1 (by rw [hfs.ng]; exact hd) (by omega)
    simp only [s_X5_generate_248, s_X5_generate_249, s_X5_generate_252, s_X5_generate_253, s_X5_generate_254, s_X5_generate_255, s_X5_generate_256, s_X5_generate_259, s_X5_generate_260, s_X5_generate_263, s_X5_generate_265, s_X5_generate_266, tl_some, tl_none, cv_int, cv_ref, cv_null, cv_long, cat_rf, jcv_nil, jcat_cons, jv_none, jv_int, jv_ref, jv_null, jw_rf, rf_some, rf_none, bz_0, bz_1, i1_0, i0_0, if_true, if_false, ite_self, List.nil_append, List.cons_append, Nat.reduceAdd, Nat.reduceLeDiff, Nat.zero_le, Nat.le_refl, and_self, and_true, true_and, not_true_eq_false, not_false_eq_true, reduceIte, hm, p64, t64, n64, p65, t65, n65, p66, t66, n66, p67, t67, n67, p68, t68, n68, p69, t69, n69, p70, t70, n70, p71, t71, n71, p72, t72, n72, p73, t73, n73, p74, t74, n74, p75, t75, n75, p76, t76, n76, p77, t77, n77, p78, t78, n78, ovl_7, ups_ovl_7, ovl_64, ups_ovl_64, ovl_65, ups_ovl_65, ovl_66, ups_ovl_66, ovl_67, ups_ovl_67, ovl_68, ups_ovl_68, ovl_69, ups_ovl_69, ovl_70, ups_ovl_70, ovl_71, ups_ovl_71, ovl_72, ups_ovl_72, ovl_73, ups_ovl_73, ovl_74, ups_ovl_74, ovl_75, ups_ovl_75, ovl_76, ups_ovl_76, ovl_78, ups_ovl_78, ovJ_77, ups_ovJ_77, h1, hib]
/-- generate, when nothing is refused -/
theorem m_gen_go (hL : MLay g P m) (hw : WfA A) (hl : LnA A) {det : Nat} {X : Int64} {l4 l5 l6 : Option Value} (hd : det ≤ ngA A) (hb : ln A + 330 ≤ 100000) :
    Ev sv (d + 6) (83, 42, [some (.ref m), some (.int (nI det)), some (.long X), none, l4, l5, l6], []) (tv t u g (ovl I m A) (ovJ J m T) P) Q ↔ Q (some (.int (genA A T det X 7 28 - A 7 28))) (tv t u g (ovl I m (genA A T det X)) (ovJ J m (genT A T det X)) P) := by
  have hL0 := hL
  obtain ⟨hm, p64, t64, n64, p65, t65, n65, p66, t66, n66, p67, t67, n67, p68, t68, n68, p69, t69, n69, p70, t70, n70, p71, t71, n71, p72, t72, n72, p73, t73, n73, p74, t74, n74, p75, t75, n75, p76, t76, n76, p77, t77, n77, p78, t78, n78⟩ := hL
  have h5 := hw.2.2.1.2
  have hpu := genP_up (T := T) hw hl (by omega)
  have hpu2 := hpu.2.2
  have htail := fun (l5 l6 : Option Value) => m_gen_tail (sv := sv) (d := d) (t := t) (u := u) (g := g) (I := I) (J := J) (P := P) (Q := Q) (T := (genP A T).2) (A := (genP A T).1) (det := det) (X := X) (l4 := A 7 28) (l5 := l5) (l6 := l6) hL0 ((genP_fs A T).wf hw) hpu.1 (by rw [(genP_fs A T).ng]; exact hd) (by omega)
  have eT : genT A T det X = adT (genB (genP A T).1) (genP A T).2 (nI det) X (nsA (genP A T).1) := by unfold genT; rw [(genP_fs A T).ns]
  have eA : genA A T det X = inBodyA (genB (genP A T).1) det X.toInt32 := rfl
  rw [eT, eA]
  by_cases h0 : A 7 22 = 0
  · have eP : genP A T = (gen1A A, T) := if_pos h0
    rw [eP] at htail ⊢
    have hal := aloneA_up (kd := 0) hw hl (by omega)
    have hal2 := hal.2.2
    have w1 := (aloneA_fr A 0).wf hw
    have hbe := hal.tr (beginA_up w1 hal.1 (by omega))
    have hbe2 := hbe.2.2
    have w2 := (beginA_fr (aloneA A 0)).wf w1
    have enc : ncA (beginA (aloneA A 0)) = ncA A := (beg_al_fr A).nc
    have ha := fun (Q : Option Value → jM → Prop) => m_alone (Q := Q) (sv := sv) (d := d + 2) (t := t) (u := u) (I := I) (J := ovJ J m T) (A := A) (kd := 0) hL0 hw hl (by omega)
    have hbg := fun (Q : Option Value → jM → Prop) => m_begin (Q := Q) (sv := sv) (d := d + 2) (t := t) (u := u) (I := I) (J := ovJ J m T) (A := aloneA A 0) hL0 w1 hal.1 (by omega)
    simp only [s_X5_generate_42, s_X5_generate_43, s_X5_generate_46, s_X5_generate_48, s_X5_generate_49, s_X5_generate_52, s_X5_generate_55, s_X5_generate_56, s_X5_generate_57, s_X5_generate_60, s_X5_generate_61, s_X5_generate_64, s_X5_generate_65, tl_some, tl_none, cv_int, cv_ref, cv_null, cv_long, cat_rf, jcv_nil, jcat_cons, jv_none, jv_int, jv_ref, jv_null, jw_rf, rf_some, rf_none, bz_0, bz_1, i1_0, i0_0, if_true, if_false, ite_self, List.nil_append, List.cons_append, Nat.reduceAdd, Nat.reduceLeDiff, Nat.zero_le, Nat.le_refl, and_self, and_true, true_and, not_true_eq_false, not_false_eq_true, reduceIte, hm, p64, t64, n64, p65, t65, n65, p66, t66, n66, p67, t67, n67, p68, t68, n68, p69, t69, n69, p70, t70, n70, p71, t71, n71, p72, t72, n72, p73, t73, n73, p74, t74, n74, p75, t75, n75, p76, t76, n76, p77, t77, n77, p78, t78, n78, ovl_7, ups_ovl_7, ovl_64, ups_ovl_64, ovl_65, ups_ovl_65, ovl_66, ups_ovl_66, ovl_67, ups_ovl_67, ovl_68, ups_ovl_68, ovl_69, ups_ovl_69, ovl_70, ups_ovl_70, ovl_71, ups_ovl_71, ovl_72, ups_ovl_72, ovl_73, ups_ovl_73, ovl_74, ups_ovl_74, ovl_75, ups_ovl_75, ovl_76, ups_ovl_76, ovl_78, ups_ovl_78, ovJ_77, ups_ovJ_77, h0, ha, hbg]
    refine (m_gen_heads (A := beginA (aloneA A 0)) hL0 w2 hbe.1 (by omega) (ncA A + 1) 0 (by rw [enc]; omega)).trans ?_
    rw [enc]
    exact htail _ _
  · by_cases hc : chA A ≤ ncA A
    · have eP : genP A T = gen2 A T (chA A) := by unfold genP; rw [if_neg h0, if_pos hc]
      rw [eP] at htail ⊢
      have hcp := chA_pos A
      have hn : ¬ nI (ncA A) < nI (chA A) := nI_nlt hc (by omega)
      have w0 := (brkA_fs A).wf hw
      have hb0 : lnUp A (brkA A) 0 := lnUp_same rfl hl
      have hb02 := hb0.2.2
      have enc : ncA (brkA A) = ncA A := (brkA_fs A).nc
      have hf := hb0.tr (ftS_up (T := T) (c := ncA A) w0 hb0.1 (ncA A + 1 - chA A) (by omega))
      have hf2 := hf.2.2
      have w1 := (ftS_fr (brkA A) T (ncA A) (ncA A + 1 - chA A)).wf w0
      have hg := hf.tr (lnUp_same (B := freshA _) (frs_28 _ 21) hf.1)
      have hg2 := hg.2.2
      have w2 := (freshA_fr (ftS (brkA A) T (ncA A) (ncA A + 1 - chA A)).1).wf w1
      have enc2 : ncA (freshA (ftS (brkA A) T (ncA A) (ncA A + 1 - chA A)).1) = ncA A := by rw [((ftS_fr (brkA A) T (ncA A) (ncA A + 1 - chA A)).tr (freshA_fr _)).nc, enc]
      have eb : upA A 7 23 (A 7 23 + 1) = brkA A := rfl
      have e4 : brkA A 7 4 = nI (ncA A) := hw.2.2.1.1
      simp only [s_X5_generate_42, s_X5_generate_43, s_X5_generate_46, s_X5_generate_48, s_X5_generate_49, s_X5_generate_52, s_X5_generate_91, s_X5_generate_92, s_X5_generate_95, s_X5_generate_97, s_X5_generate_99, s_X5_generate_100, s_X5_generate_103, s_X5_generate_106, s_X5_generate_107, s_X5_generate_108, s_X5_generate_111, s_X5_generate_112, s_X5_generate_113, s_X5_generate_116, s_X5_generate_117, s_X5_generate_120, tl_some, tl_none, cv_int, cv_ref, cv_null, cv_long, cat_rf, jcv_nil, jcat_cons, jv_none, jv_int, jv_ref, jv_null, jw_rf, rf_some, rf_none, bz_0, bz_1, i1_0, i0_0, if_true, if_false, ite_self, List.nil_append, List.cons_append, Nat.reduceAdd, Nat.reduceLeDiff, Nat.zero_le, Nat.le_refl, and_self, and_true, true_and, not_true_eq_false, not_false_eq_true, reduceIte, hm, p64, t64, n64, p65, t65, n65, p66, t66, n66, p67, t67, n67, p68, t68, n68, p69, t69, n69, p70, t70, n70, p71, t71, n71, p72, t72, n72, p73, t73, n73, p74, t74, n74, p75, t75, n75, p76, t76, n76, p77, t77, n77, p78, t78, n78, ovl_7, ups_ovl_7, ovl_64, ups_ovl_64, ovl_65, ups_ovl_65, ovl_66, ups_ovl_66, ovl_67, ups_ovl_67, ovl_68, ups_ovl_68, ovl_69, ups_ovl_69, ovl_70, ups_ovl_70, ovl_71, ups_ovl_71, ovl_72, ups_ovl_72, ovl_73, ups_ovl_73, ovl_74, ups_ovl_74, ovl_75, ups_ovl_75, ovl_76, ups_ovl_76, ovl_78, ups_ovl_78, ovJ_77, ups_ovJ_77, h0, m_changed hL0 hw, hw.2.2.1.1, hn, eb, e4]
      have hft := m_gen_foots (sv := sv) (d := d) (t := t) (u := u) (g := g) (I := I) (J := J) (P := P) (Q := Q) (T := T) (A := brkA A) (l1 := nI det) (X := X) (l4 := A 7 28) (c := chA A) hL0 w0 hb0.1 hcp (by omega) (ncA A + 1 - chA A) 0 (by rw [enc]; omega) (by omega)
      rw [enc] at hft
      refine hft.trans ?_
      simp only [s_X5_generate_141, s_X5_generate_142, s_X5_generate_145, s_X5_generate_147, tl_some, tl_none, cv_int, cv_ref, cv_null, cv_long, cat_rf, jcv_nil, jcat_cons, jv_none, jv_int, jv_ref, jv_null, jw_rf, rf_some, rf_none, bz_0, bz_1, i1_0, i0_0, if_true, if_false, ite_self, List.nil_append, List.cons_append, Nat.reduceAdd, Nat.reduceLeDiff, Nat.zero_le, Nat.le_refl, and_self, and_true, true_and, not_true_eq_false, not_false_eq_true, reduceIte, hm, p64, t64, n64, p65, t65, n65, p66, t66, n66, p67, t67, n67, p68, t68, n68, p69, t69, n69, p70, t70, n70, p71, t71, n71, p72, t72, n72, p73, t73, n73, p74, t74, n74, p75, t75, n75, p76, t76, n76, p77, t77, n77, p78, t78, n78, ovl_7, ups_ovl_7, ovl_64, ups_ovl_64, ovl_65, ups_ovl_65, ovl_66, ups_ovl_66, ovl_67, ups_ovl_67, ovl_68, ups_ovl_68, ovl_69, ups_ovl_69, ovl_70, ups_ovl_70, ovl_71, ups_ovl_71, ovl_72, ups_ovl_72, ovl_73, ups_ovl_73, ovl_74, ups_ovl_74, ovl_75, ups_ovl_75, ovl_76, ups_ovl_76, ovl_78, ups_ovl_78, ovJ_77, ups_ovJ_77, m_fresh hL0, freshA_eq]
      have hhd := m_gen_heads2 (sv := sv) (d := d) (t := t) (u := u) (g := g) (I := I) (J := ovJ J m (ftS (brkA A) T (ncA A) (ncA A + 1 - chA A)).2) (P := P) (Q := Q) (A := freshA (ftS (brkA A) T (ncA A) (ncA A + 1 - chA A)).1) (l1 := nI det) (X := X) (l4 := A 7 28) (c := chA A) (l5 := nI (chA A)) hL0 w2 hg.1 (by omega) (ncA A + 1 - chA A) 0 (by rw [enc2]; omega)
      rw [enc2] at hhd
      refine hhd.trans ?_
      exact htail _ _
    · have eP : genP A T = (A, T) := by unfold genP; rw [if_neg h0, if_neg hc]
      rw [eP] at htail ⊢
      have hcl := chA_le A
      have hn : nI (ncA A) < nI (chA A) := nI_lt (by omega) (by omega)
      simp only [s_X5_generate_42, s_X5_generate_43, s_X5_generate_46, s_X5_generate_48, s_X5_generate_49, s_X5_generate_52, s_X5_generate_91, s_X5_generate_92, s_X5_generate_95, s_X5_generate_97, s_X5_generate_99, s_X5_generate_100, s_X5_generate_103, tl_some, tl_none, cv_int, cv_ref, cv_null, cv_long, cat_rf, jcv_nil, jcat_cons, jv_none, jv_int, jv_ref, jv_null, jw_rf, rf_some, rf_none, bz_0, bz_1, i1_0, i0_0, if_true, if_false, ite_self, List.nil_append, List.cons_append, Nat.reduceAdd, Nat.reduceLeDiff, Nat.zero_le, Nat.le_refl, and_self, and_true, true_and, not_true_eq_false, not_false_eq_true, reduceIte, hm, p64, t64, n64, p65, t65, n65, p66, t66, n66, p67, t67, n67, p68, t68, n68, p69, t69, n69, p70, t70, n70, p71, t71, n71, p72, t72, n72, p73, t73, n73, p74, t74, n74, p75, t75, n75, p76, t76, n76, p77, t77, n77, p78, t78, n78, ovl_7, ups_ovl_7, ovl_64, ups_ovl_64, ovl_65, ups_ovl_65, ovl_66, ups_ovl_66, ovl_67, ups_ovl_67, ovl_68, ups_ovl_68, ovl_69, ups_ovl_69, ovl_70, ups_ovl_70, ovl_71, ups_ovl_71, ovl_72, ups_ovl_72, ovl_73, ups_ovl_73, ovl_74, ups_ovl_74, ovl_75, ups_ovl_75, ovl_76, ups_ovl_76, ovl_78, ups_ovl_78, ovJ_77, ups_ovJ_77, h0, m_changed hL0 hw, hw.2.2.1.1, hn]
      exact htail _ _
end
