-- ===== pages =====
def fndN (A : Nat → Nat → Int32) (kd lv : Int32) : Nat → Nat
  | 0 => 0
  | n + 1 => if A 66 (n + 1) = kd ∧ A 67 (n + 1) = lv then n + 1 else fndN A kd lv n
theorem fnd_nI (A : Nat → Nat → Int32) (kd lv : Int32) : ∀ n, fnd A kd lv n = nI (fndN A kd lv n)
  | 0 => rfl
  | n + 1 => by
    unfold fnd fndN
    by_cases h : A 66 (n + 1) = kd ∧ A 67 (n + 1) = lv
    · rw [if_pos h, if_pos h]
    · rw [if_neg h, if_neg h]; exact fnd_nI A kd lv n
theorem fndN_le (A : Nat → Nat → Int32) (kd lv : Int32) : ∀ n, fndN A kd lv n ≤ n
  | 0 => Nat.le_refl 0
  | n + 1 => by
    unfold fndN
    split
    · exact Nat.le_refl _
    · exact Nat.le_succ_of_le (fndN_le A kd lv n)
/-- the group of a kind and level, 0 if there is none -/
def gF (A : Nat → Nat → Int32) (kd lv : Int32) : Nat := fndN A kd lv (ngA A)
theorem gF_le (A : Nat → Nat → Int32) (kd lv : Int32) : gF A kd lv ≤ ngA A := fndN_le A kd lv _
theorem fndN_fr {A B : Nat → Nat → Int32} (h : fr A B) (kd lv : Int32) : ∀ n, fndN B kd lv n = fndN A kd lv n
  | 0 => rfl
  | n + 1 => by
    unfold fndN
    rw [h 66 (n + 1) rfl, h 67 (n + 1) rfl, fndN_fr h kd lv n]
theorem fr.gf {A B : Nat → Nat → Int32} (h : fr A B) (kd lv : Int32) : gF B kd lv = gF A kd lv := by
  unfold gF
  rw [h.ng, fndN_fr h]
def onA (A : Nat → Nat → Int32) (gi : Nat) : Nat → Nat → Int32 := upA A 71 gi 0
abbrev isOA (A : Nat → Nat → Int32) (gi : Nat) : Prop := A 71 gi = 0 ∧ 0 < A 68 gi
/-- a group's turn: its suppression is used up; F is what it does if it prints -/
def turnA (A : Nat → Nat → Int32) (gi : Nat) (F : (Nat → Nat → Int32) → Nat → Nat → Int32) : Nat → Nat → Int32 := if gi = 0 then A else if isOA A gi then F (onA A gi) else onA A gi
def putFromA (A : Nat → Nat → Int32) (gi : Nat) (f v : Int32) : Nat → Nat → Int32 := putAllA A gi (if A 70 gi = 0 then f + A 69 (10 * gi) else A 69 (10 * gi)) v
def freshA (A : Nat → Nat → Int32) : Nat → Nat → Int32 := frs A 21
def pageA (A : Nat → Nat → Int32) : Nat → Nat → Int32 := upA (upA A 7 24 (A 7 24 + 1)) 7 25 0
def aloneA (A : Nat → Nat → Int32) (kd : Int32) : Nat → Nat → Int32 := turnA A (gF A kd 0) (fun B => putFromA (pageA B) (gF A kd 0) 0 0)
def beginA (A : Nat → Nat → Int32) : Nat → Nat → Int32 := turnA (freshA (upA (pageA A) 7 26 0)) (gF A 1 0) (fun B => putFromA B (gF A 1 0) 0 0)
def overA (A : Nat → Nat → Int32) : Nat → Nat → Int32 := turnA A (gF A 5 0) (fun B => putFromA B (gF A 5 0) (A 7 3) 0)
def topA (A : Nat → Nat → Int32) (gi : Nat) : Int32 := if A 70 gi = 0 then (if A 7 26 = 0 then A 7 2 else A 7 26 + A 69 (10 * gi)) else A 69 (10 * gi)
abbrev ovf (A : Nat → Nat → Int32) (gi : Nat) : Prop := (0 < A 7 26 ∧ ¬ A 7 26 < topA A gi) ∨ A 7 3 < lat A gi (topA A gi) (mnA A gi - 1)
def roomA (A : Nat → Nat → Int32) (gi : Nat) : Nat → Nat → Int32 := if ovf A gi then beginA (overA A) else A
abbrev hid (A : Nat → Nat → Int32) (gi : Nat) : Prop := A 66 gi = 3 ∧ ¬ A 72 gi = 0 ∧ ¬ A 73 gi = 0
def tellA (A : Nat → Nat → Int32) (gi : Nat) (v : Int32) : Nat → Nat → Int32 := putAllA (upA A 73 gi 1) gi (topA A gi) (if hid A gi then 0 else v)
def bodyA (A : Nat → Nat → Int32) : Nat → Nat → Int32 := upA A 7 26 (A 7 25)
def inBodyA (A : Nat → Nat → Int32) (gi : Nat) (v : Int32) : Nat → Nat → Int32 := turnA A gi (fun B => bodyA (tellA (roomA B gi) gi v))
-- what they leave, how many lines they print
theorem onA_fr (A : Nat → Nat → Int32) (gi : Nat) : fr A (onA A gi) := fr_up (fr_rf A) rfl
theorem turnA_fr {A : Nat → Nat → Int32} {gi : Nat} {F : (Nat → Nat → Int32) → Nat → Nat → Int32} (h : ∀ B, fr A B → fr A (F B)) : fr A (turnA A gi F) := by
  unfold turnA
  split
  · exact fr_rf A
  · split
    · exact h _ (onA_fr A gi)
    · exact onA_fr A gi
theorem putAllA_fr {A : Nat → Nat → Int32} {gi : Nat} {top v : Int32} : fr A (putAllA A gi top v) := pAllA_fr _
theorem putFromA_fr {A : Nat → Nat → Int32} {gi : Nat} {f v : Int32} : fr A (putFromA A gi f v) := putAllA_fr
theorem frs_fr (A : Nat → Nat → Int32) : ∀ n, fr A (frs A n)
  | 0 => fr_rf A
  | n + 1 => fr_up (frs_fr A n) rfl
theorem freshA_fr (A : Nat → Nat → Int32) : fr A (freshA A) := frs_fr A 21
theorem pageA_fr (A : Nat → Nat → Int32) : fr A (pageA A) := fr_up (fr_up (fr_rf A) rfl) rfl
theorem aloneA_fr (A : Nat → Nat → Int32) (kd : Int32) : fr A (aloneA A kd) := turnA_fr (fun B h => h.tr ((pageA_fr B).tr putFromA_fr))
theorem overA_fr (A : Nat → Nat → Int32) : fr A (overA A) := turnA_fr (fun B h => h.tr putFromA_fr)
theorem beg0_fr (A : Nat → Nat → Int32) : fr A (freshA (upA (pageA A) 7 26 0)) := (fr_up (pageA_fr A) rfl).tr (freshA_fr _)
theorem beginA_fr (A : Nat → Nat → Int32) : fr A (beginA A) := (beg0_fr A).tr (turnA_fr (fun B h => h.tr putFromA_fr))
theorem roomA_fr (A : Nat → Nat → Int32) (gi : Nat) : fr A (roomA A gi) := by
  unfold roomA
  split
  · exact (overA_fr A).tr (beginA_fr _)
  · exact fr_rf A
theorem tellA_fr (A : Nat → Nat → Int32) (gi : Nat) (v : Int32) : fr A (tellA A gi v) := (fr_up (fr_rf A) rfl).tr putAllA_fr
theorem bodyA_fr (A : Nat → Nat → Int32) : fr A (bodyA A) := fr_up (fr_rf A) rfl
theorem inBodyA_fr (A : Nat → Nat → Int32) (gi : Nat) (v : Int32) : fr A (inBodyA A gi v) := turnA_fr (fun B h => h.tr ((roomA_fr B gi).tr ((tellA_fr _ gi v).tr (bodyA_fr _))))
/-- at most n lines more -/
def lnUp (A B : Nat → Nat → Int32) (n : Nat) : Prop := LnA B ∧ ln A ≤ ln B ∧ ln B ≤ ln A + n
theorem lnUp_same {A B : Nat → Nat → Int32} (h : B 7 28 = A 7 28) (hl : LnA A) : lnUp A B 0 := by
  have e : ln B = ln A := by unfold ln; rw [h]
  exact ⟨by unfold LnA; rw [h, e]; exact hl, by omega, by omega⟩
theorem lnUp.tr {A B C : Nat → Nat → Int32} {n k : Nat} (h : lnUp A B n) (h2 : lnUp B C k) : lnUp A C (n + k) := ⟨h2.1, Nat.le_trans h.2.1 h2.2.1, by have := h.2.2; have := h2.2.2; omega⟩
theorem lnUp.le {A B : Nat → Nat → Int32} {n k : Nat} (h : lnUp A B n) (hk : n ≤ k) : lnUp A B k := ⟨h.1, h.2.1, Nat.le_trans h.2.2 (by omega)⟩
theorem putAllA_up {A : Nat → Nat → Int32} {gi : Nat} {top v : Int32} (hw : WfA A) (hl : LnA A) (hb : ln A + 10 ≤ 100000) : lnUp A (putAllA A gi top v) 10 := by
  have h10 := (hw.2.2.2.1 gi).2
  have e : ln (putAllA A gi top v) = ln A + mnA A gi := pAllA_ln _ (by omega)
  exact ⟨pAllA_LnA hl _ (by omega), by omega, by omega⟩
theorem turnA_up {A : Nat → Nat → Int32} {gi n : Nat} {F : (Nat → Nat → Int32) → Nat → Nat → Int32} (hl : LnA A) (h : lnUp A (F (onA A gi)) n) : lnUp A (turnA A gi F) n := by
  unfold turnA
  split
  · exact (lnUp_same rfl hl).le (Nat.zero_le _)
  · split
    · exact h
    · exact (lnUp_same (B := onA A gi) rfl hl).le (Nat.zero_le _)
theorem frs_28 (A : Nat → Nat → Int32) : ∀ n, frs A n 7 28 = A 7 28
  | 0 => rfl
  | n + 1 => frs_28 A n
theorem aloneA_up {A : Nat → Nat → Int32} {kd : Int32} (hw : WfA A) (hl : LnA A) (hb : ln A + 10 ≤ 100000) : lnUp A (aloneA A kd) 10 := by
  refine turnA_up hl ?_
  have h1 : lnUp A (pageA (onA A (gF A kd 0))) 0 := lnUp_same rfl hl
  have h2 := h1.2.2
  exact (h1.tr (putAllA_up (((onA_fr A _).tr (pageA_fr _)).wf hw) h1.1 (by omega))).le (by omega)
theorem overA_up {A : Nat → Nat → Int32} (hw : WfA A) (hl : LnA A) (hb : ln A + 10 ≤ 100000) : lnUp A (overA A) 10 := by
  refine turnA_up hl ?_
  have h1 : lnUp A (onA A (gF A 5 0)) 0 := lnUp_same rfl hl
  have h2 := h1.2.2
  exact (h1.tr (putAllA_up ((onA_fr A _).wf hw) h1.1 (by omega))).le (by omega)
theorem beginA_up {A : Nat → Nat → Int32} (hw : WfA A) (hl : LnA A) (hb : ln A + 10 ≤ 100000) : lnUp A (beginA A) 10 := by
  have h0 : lnUp A (freshA (upA (pageA A) 7 26 0)) 0 := lnUp_same (frs_28 _ 21) hl
  have h00 := h0.2.2
  refine (h0.tr (turnA_up (n := 10) h0.1 ?_)).le (by omega)
  have h1 : lnUp (freshA (upA (pageA A) 7 26 0)) (onA (freshA (upA (pageA A) 7 26 0)) (gF A 1 0)) 0 := lnUp_same rfl h0.1
  have h2 := h1.2.2
  exact (h1.tr (putAllA_up (((beg0_fr A).tr (onA_fr _ _)).wf hw) h1.1 (by omega))).le (by omega)
theorem roomA_up {A : Nat → Nat → Int32} {gi : Nat} (hw : WfA A) (hl : LnA A) (hb : ln A + 20 ≤ 100000) : lnUp A (roomA A gi) 20 := by
  unfold roomA
  split
  · have h1 := overA_up hw hl (by omega)
    have h2 := h1.2.2
    exact (h1.tr (beginA_up ((overA_fr A).wf hw) h1.1 (by omega))).le (by omega)
  · exact (lnUp_same rfl hl).le (Nat.zero_le _)
theorem inBodyA_up {A : Nat → Nat → Int32} {gi : Nat} {v : Int32} (hw : WfA A) (hl : LnA A) (hb : ln A + 30 ≤ 100000) : lnUp A (inBodyA A gi v) 30 := by
  refine turnA_up hl ?_
  have h1 : lnUp A (onA A gi) 0 := lnUp_same rfl hl
  have h2 := h1.2.2
  have w1 := (onA_fr A gi).wf hw
  have h3 := h1.tr (roomA_up (gi := gi) w1 h1.1 (by omega))
  have h4 := h3.2.2
  have w2 := (roomA_fr (onA A gi) gi).wf w1
  have h5 : lnUp A (upA (roomA (onA A gi) gi) 73 gi 1) 20 := (h3.tr (lnUp_same rfl h3.1)).le (by omega)
  have h6 := h5.2.2
  have h7 := h5.tr (putAllA_up (gi := gi) (top := topA (roomA (onA A gi) gi) gi) (v := if hid (roomA (onA A gi) gi) gi then 0 else v) ((fr_up (fr_rf _) (κ := 73) (j := gi) (v := 1) rfl).wf w2) h5.1 (by omega))
  exact (h7.tr (lnUp_same (B := bodyA _) rfl h7.1)).le (by omega)
section
variable {sv : Nat → Value} {d t u : Nat} {Q : Option Value → jM → Prop} {g : jG} {I : tI} {J : tJ} {P : tP} {A : Nat → Nat → Int32} {T : Nat → Int64} {m : Nat} {x y z : Int32}
theorem m_findN (hL : MLay g P m) (hw : WfA A) {kd lv : Int32} : Ev sv d (57, 0, [some (.ref m), some (.int kd), some (.int lv), none, none], []) (tv t u g (ovl I m A) J P) Q ↔ Q (some (.int (nI (gF A kd lv)))) (tv t u g (ovl I m A) J P) := by
  rw [m_find hL hw.1.1 hw.1.2, fnd_nI]
  rfl
theorem isG_nI {gi : Nat} (hw : WfA A) (h1 : 1 ≤ gi) (h2 : gi ≤ ngA A) : isG A (nI gi) := by
  have h20 := hw.1.2
  refine ⟨nI_lt (a := 0) (by omega) (by omega), ?_⟩
  rw [hw.1.1]
  exact nI_nlt h2 (by omega)
theorem m_isOnN (hL : MLay g P m) (hw : WfA A) {gi : Nat} (hg : gi ≤ ngA A) : Ev sv d (68, 0, [some (.ref m), some (.int (nI gi)), none], []) (tv t u g (ovl I m A) J P) Q ↔ if gi = 0 then Q (some (.int 0)) (tv t u g (ovl I m A) J P) else if isOA A gi then Q (some (.int 1)) (tv t u g (ovl I m (onA A gi)) J P) else Q (some (.int 0)) (tv t u g (ovl I m (onA A gi)) J P) := by
  have h20 := hw.1.2
  by_cases h0 : gi = 0
  · subst h0
    rw [if_pos rfl]
    exact m_isOn0 hL
  · rw [if_neg h0]
    have hc : (nI gi).toNatClampNeg = gi := nI_clamp (by omega)
    rw [m_isOn hL (isG_nI hw (by omega) hg) hw.1.1 hw.1.2]
    simp only [isO, isOA, onA, hc]
theorem m_putFrom (hL : MLay g P m) (hw : WfA A) (hl : LnA A) {gi : Nat} {f v : Int32} (hg1 : 1 ≤ gi) (hg : gi ≤ ngA A) (hb : ln A + 10 ≤ 100000) : Ev sv (d + 2) (70, 0, [some (.ref m), some (.int (nI gi)), some (.int f), some (.int v)], []) (tv t u g (ovl I m A) J P) Q ↔ Q none (tv t u g (ovl I m (putFromA A gi f v)) J P) := by
  have hL0 := hL
  obtain ⟨hm, p64, t64, n64, p65, t65, n65, p66, t66, n66, p67, t67, n67, p68, t68, n68, p69, t69, n69, p70, t70, n70, p71, t71, n71, p72, t72, n72, p73, t73, n73, p74, t74, n74, p75, t75, n75, p76, t76, n76, p77, t77, n77, p78, t78, n78⟩ := hL
  have h20 := hw.1.2
  have h10 := (hw.2.2.2.1 gi).2
  have hjg : jin (nI gi) 21 = true := jin_nI (by omega) (by omega)
  have hcg : (nI gi).toNatClampNeg = gi := nI_clamp (by omega)
  have e10 : (10 : Int32) * nI gi = nI (10 * gi) := nI_mul 10 gi
  have hj2 : jin (nI (10 * gi)) 210 = true := jin_nI (by omega) (by omega)
  have hc2 : (nI (10 * gi)).toNatClampNeg = 10 * gi := nI_clamp (by omega)
  have hpa := fun top => m_putAll (sv := sv) (d := d) (t := t) (u := u) (I := I) (J := J) (A := A) (top := top) (v := v) (Q := fun r M1 => Ev sv (d + 1 + 1) (70, 38, [some (.ref m), some (.int (nI gi)), some (.int f), some (.int v)], r.toList ++ []) M1 Q) hL0 hw hl hg1 hg (by omega)
  by_cases h70 : A 70 gi = 0
  · simp only [s_X5_putFrom_0, s_X5_putFrom_0n, s_X5_putFrom_0z, s_X5_putFrom_1, s_X5_putFrom_2, s_X5_putFrom_2n, s_X5_putFrom_2z, s_X5_putFrom_3, s_X5_putFrom_6, s_X5_putFrom_7, s_X5_putFrom_8, s_X5_putFrom_11, s_X5_putFrom_11n, s_X5_putFrom_11z, s_X5_putFrom_12, s_X5_putFrom_15, s_X5_putFrom_17, s_X5_putFrom_18, s_X5_putFrom_19, s_X5_putFrom_20, s_X5_putFrom_23, s_X5_putFrom_24, s_X5_putFrom_24n, s_X5_putFrom_24z, s_X5_putFrom_25, s_X5_putFrom_28, s_X5_putFrom_30, s_X5_putFrom_31, s_X5_putFrom_32, s_X5_putFrom_33, s_X5_putFrom_34, s_X5_putFrom_35, s_X5_putFrom_38, tl_some, tl_none, cv_int, cv_ref, cv_null, cv_long, cat_rf, jcv_nil, jcat_cons, jv_none, jv_int, jv_ref, jv_null, jw_rf, rf_some, rf_none, bz_0, bz_1, i1_0, i0_0, if_true, if_false, ite_self, List.nil_append, List.cons_append, Nat.reduceAdd, Nat.reduceLeDiff, Nat.zero_le, Nat.le_refl, and_self, and_true, true_and, not_true_eq_false, not_false_eq_true, reduceIte, hm, p64, t64, n64, p65, t65, n65, p66, t66, n66, p67, t67, n67, p68, t68, n68, p69, t69, n69, p70, t70, n70, p71, t71, n71, p72, t72, n72, p73, t73, n73, p74, t74, n74, p75, t75, n75, p76, t76, n76, p77, t77, n77, p78, t78, n78, ovl_7, ups_ovl_7, ovl_64, ups_ovl_64, ovl_65, ups_ovl_65, ovl_66, ups_ovl_66, ovl_67, ups_ovl_67, ovl_68, ups_ovl_68, ovl_69, ups_ovl_69, ovl_70, ups_ovl_70, ovl_71, ups_ovl_71, ovl_72, ups_ovl_72, ovl_73, ups_ovl_73, ovl_74, ups_ovl_74, ovl_75, ups_ovl_75, ovl_76, ups_ovl_76, ovl_78, ups_ovl_78, ovJ_77, ups_ovJ_77, hjg, hcg, h70, e10, hj2, hc2, hpa]
    unfold putFromA
    rw [if_pos h70]
  · simp only [s_X5_putFrom_0, s_X5_putFrom_0n, s_X5_putFrom_0z, s_X5_putFrom_1, s_X5_putFrom_2, s_X5_putFrom_2n, s_X5_putFrom_2z, s_X5_putFrom_3, s_X5_putFrom_6, s_X5_putFrom_7, s_X5_putFrom_8, s_X5_putFrom_11, s_X5_putFrom_11n, s_X5_putFrom_11z, s_X5_putFrom_12, s_X5_putFrom_15, s_X5_putFrom_17, s_X5_putFrom_18, s_X5_putFrom_19, s_X5_putFrom_20, s_X5_putFrom_23, s_X5_putFrom_24, s_X5_putFrom_24n, s_X5_putFrom_24z, s_X5_putFrom_25, s_X5_putFrom_28, s_X5_putFrom_30, s_X5_putFrom_31, s_X5_putFrom_32, s_X5_putFrom_33, s_X5_putFrom_34, s_X5_putFrom_35, s_X5_putFrom_38, tl_some, tl_none, cv_int, cv_ref, cv_null, cv_long, cat_rf, jcv_nil, jcat_cons, jv_none, jv_int, jv_ref, jv_null, jw_rf, rf_some, rf_none, bz_0, bz_1, i1_0, i0_0, if_true, if_false, ite_self, List.nil_append, List.cons_append, Nat.reduceAdd, Nat.reduceLeDiff, Nat.zero_le, Nat.le_refl, and_self, and_true, true_and, not_true_eq_false, not_false_eq_true, reduceIte, hm, p64, t64, n64, p65, t65, n65, p66, t66, n66, p67, t67, n67, p68, t68, n68, p69, t69, n69, p70, t70, n70, p71, t71, n71, p72, t72, n72, p73, t73, n73, p74, t74, n74, p75, t75, n75, p76, t76, n76, p77, t77, n77, p78, t78, n78, ovl_7, ups_ovl_7, ovl_64, ups_ovl_64, ovl_65, ups_ovl_65, ovl_66, ups_ovl_66, ovl_67, ups_ovl_67, ovl_68, ups_ovl_68, ovl_69, ups_ovl_69, ovl_70, ups_ovl_70, ovl_71, ups_ovl_71, ovl_72, ups_ovl_72, ovl_73, ups_ovl_73, ovl_74, ups_ovl_74, ovl_75, ups_ovl_75, ovl_76, ups_ovl_76, ovl_78, ups_ovl_78, ovJ_77, ups_ovJ_77, hjg, hcg, h70, e10, hj2, hc2, hpa]
    unfold putFromA
    rw [if_neg h70]
theorem m_top (hL : MLay g P m) (hw : WfA A) {gi : Nat} (hg : gi ≤ ngA A) : Ev sv d (75, 0, [some (.ref m), some (.int (nI gi))], []) (tv t u g (ovl I m A) J P) Q ↔ Q (some (.int (topA A gi))) (tv t u g (ovl I m A) J P) := by
  obtain ⟨hm, p64, t64, n64, p65, t65, n65, p66, t66, n66, p67, t67, n67, p68, t68, n68, p69, t69, n69, p70, t70, n70, p71, t71, n71, p72, t72, n72, p73, t73, n73, p74, t74, n74, p75, t75, n75, p76, t76, n76, p77, t77, n77, p78, t78, n78⟩ := hL
  have h20 := hw.1.2
  have hjg : jin (nI gi) 21 = true := jin_nI (by omega) (by omega)
  have hcg : (nI gi).toNatClampNeg = gi := nI_clamp (by omega)
  have e10 : (10 : Int32) * nI gi = nI (10 * gi) := nI_mul 10 gi
  have hj2 : jin (nI (10 * gi)) 210 = true := jin_nI (by omega) (by omega)
  have hc2 : (nI (10 * gi)).toNatClampNeg = 10 * gi := nI_clamp (by omega)
  unfold topA
  by_cases h70 : A 70 gi = 0
  · by_cases h26 : A 7 26 = 0
    · simp only [s_X5_top_0, s_X5_top_0n, s_X5_top_0z, s_X5_top_1, s_X5_top_4, s_X5_top_5, s_X5_top_6, s_X5_top_9, s_X5_top_9n, s_X5_top_9z, s_X5_top_10, s_X5_top_13, s_X5_top_15, s_X5_top_16, s_X5_top_17, s_X5_top_18, s_X5_top_21, s_X5_top_21n, s_X5_top_21z, s_X5_top_22, s_X5_top_25, s_X5_top_28, s_X5_top_28n, s_X5_top_28z, s_X5_top_29, s_X5_top_32, s_X5_top_35, s_X5_top_35n, s_X5_top_35z, s_X5_top_36, s_X5_top_39, s_X5_top_39n, s_X5_top_39z, s_X5_top_40, s_X5_top_43, s_X5_top_45, s_X5_top_46, s_X5_top_47, s_X5_top_48, s_X5_top_49, tl_some, tl_none, cv_int, cv_ref, cv_null, cv_long, cat_rf, jcv_nil, jcat_cons, jv_none, jv_int, jv_ref, jv_null, jw_rf, rf_some, rf_none, bz_0, bz_1, i1_0, i0_0, if_true, if_false, ite_self, List.nil_append, List.cons_append, Nat.reduceAdd, Nat.reduceLeDiff, Nat.zero_le, Nat.le_refl, and_self, and_true, true_and, not_true_eq_false, not_false_eq_true, reduceIte, hm, p64, t64, n64, p65, t65, n65, p66, t66, n66, p67, t67, n67, p68, t68, n68, p69, t69, n69, p70, t70, n70, p71, t71, n71, p72, t72, n72, p73, t73, n73, p74, t74, n74, p75, t75, n75, p76, t76, n76, p77, t77, n77, p78, t78, n78, ovl_7, ups_ovl_7, ovl_64, ups_ovl_64, ovl_65, ups_ovl_65, ovl_66, ups_ovl_66, ovl_67, ups_ovl_67, ovl_68, ups_ovl_68, ovl_69, ups_ovl_69, ovl_70, ups_ovl_70, ovl_71, ups_ovl_71, ovl_72, ups_ovl_72, ovl_73, ups_ovl_73, ovl_74, ups_ovl_74, ovl_75, ups_ovl_75, ovl_76, ups_ovl_76, ovl_78, ups_ovl_78, ovJ_77, ups_ovJ_77, hjg, hcg, h70, e10, hj2, hc2, h26]
    · simp only [s_X5_top_0, s_X5_top_0n, s_X5_top_0z, s_X5_top_1, s_X5_top_4, s_X5_top_5, s_X5_top_6, s_X5_top_9, s_X5_top_9n, s_X5_top_9z, s_X5_top_10, s_X5_top_13, s_X5_top_15, s_X5_top_16, s_X5_top_17, s_X5_top_18, s_X5_top_21, s_X5_top_21n, s_X5_top_21z, s_X5_top_22, s_X5_top_25, s_X5_top_28, s_X5_top_28n, s_X5_top_28z, s_X5_top_29, s_X5_top_32, s_X5_top_35, s_X5_top_35n, s_X5_top_35z, s_X5_top_36, s_X5_top_39, s_X5_top_39n, s_X5_top_39z, s_X5_top_40, s_X5_top_43, s_X5_top_45, s_X5_top_46, s_X5_top_47, s_X5_top_48, s_X5_top_49, tl_some, tl_none, cv_int, cv_ref, cv_null, cv_long, cat_rf, jcv_nil, jcat_cons, jv_none, jv_int, jv_ref, jv_null, jw_rf, rf_some, rf_none, bz_0, bz_1, i1_0, i0_0, if_true, if_false, ite_self, List.nil_append, List.cons_append, Nat.reduceAdd, Nat.reduceLeDiff, Nat.zero_le, Nat.le_refl, and_self, and_true, true_and, not_true_eq_false, not_false_eq_true, reduceIte, hm, p64, t64, n64, p65, t65, n65, p66, t66, n66, p67, t67, n67, p68, t68, n68, p69, t69, n69, p70, t70, n70, p71, t71, n71, p72, t72, n72, p73, t73, n73, p74, t74, n74, p75, t75, n75, p76, t76, n76, p77, t77, n77, p78, t78, n78, ovl_7, ups_ovl_7, ovl_64, ups_ovl_64, ovl_65, ups_ovl_65, ovl_66, ups_ovl_66, ovl_67, ups_ovl_67, ovl_68, ups_ovl_68, ovl_69, ups_ovl_69, ovl_70, ups_ovl_70, ovl_71, ups_ovl_71, ovl_72, ups_ovl_72, ovl_73, ups_ovl_73, ovl_74, ups_ovl_74, ovl_75, ups_ovl_75, ovl_76, ups_ovl_76, ovl_78, ups_ovl_78, ovJ_77, ups_ovJ_77, hjg, hcg, h70, e10, hj2, hc2, h26]
  · simp only [s_X5_top_0, s_X5_top_0n, s_X5_top_0z, s_X5_top_1, s_X5_top_4, s_X5_top_5, s_X5_top_6, s_X5_top_9, s_X5_top_9n, s_X5_top_9z, s_X5_top_10, s_X5_top_13, s_X5_top_15, s_X5_top_16, s_X5_top_17, s_X5_top_18, s_X5_top_21, s_X5_top_21n, s_X5_top_21z, s_X5_top_22, s_X5_top_25, s_X5_top_28, s_X5_top_28n, s_X5_top_28z, s_X5_top_29, s_X5_top_32, s_X5_top_35, s_X5_top_35n, s_X5_top_35z, s_X5_top_36, s_X5_top_39, s_X5_top_39n, s_X5_top_39z, s_X5_top_40, s_X5_top_43, s_X5_top_45, s_X5_top_46, s_X5_top_47, s_X5_top_48, s_X5_top_49, tl_some, tl_none, cv_int, cv_ref, cv_null, cv_long, cat_rf, jcv_nil, jcat_cons, jv_none, jv_int, jv_ref, jv_null, jw_rf, rf_some, rf_none, bz_0, bz_1, i1_0, i0_0, if_true, if_false, ite_self, List.nil_append, List.cons_append, Nat.reduceAdd, Nat.reduceLeDiff, Nat.zero_le, Nat.le_refl, and_self, and_true, true_and, not_true_eq_false, not_false_eq_true, reduceIte, hm, p64, t64, n64, p65, t65, n65, p66, t66, n66, p67, t67, n67, p68, t68, n68, p69, t69, n69, p70, t70, n70, p71, t71, n71, p72, t72, n72, p73, t73, n73, p74, t74, n74, p75, t75, n75, p76, t76, n76, p77, t77, n77, p78, t78, n78, ovl_7, ups_ovl_7, ovl_64, ups_ovl_64, ovl_65, ups_ovl_65, ovl_66, ups_ovl_66, ovl_67, ups_ovl_67, ovl_68, ups_ovl_68, ovl_69, ups_ovl_69, ovl_70, ups_ovl_70, ovl_71, ups_ovl_71, ovl_72, ups_ovl_72, ovl_73, ups_ovl_73, ovl_74, ups_ovl_74, ovl_75, ups_ovl_75, ovl_76, ups_ovl_76, ovl_78, ups_ovl_78, ovJ_77, ups_ovJ_77, hjg, hcg, h70, e10, hj2, hc2]
theorem m_over (hL : MLay g P m) (hw : WfA A) (hl : LnA A) (hb : ln A + 10 ≤ 100000) : Ev sv (d + 3) (73, 0, [some (.ref m), none], []) (tv t u g (ovl I m A) J P) Q ↔ Q none (tv t u g (ovl I m (overA A)) J P) := by
  have hL0 := hL
  obtain ⟨hm, p64, t64, n64, p65, t65, n65, p66, t66, n66, p67, t67, n67, p68, t68, n68, p69, t69, n69, p70, t70, n70, p71, t71, n71, p72, t72, n72, p73, t73, n73, p74, t74, n74, p75, t75, n75, p76, t76, n76, p77, t77, n77, p78, t78, n78⟩ := hL
  have hgl := gF_le A 5 0
  simp only [s_X5_over_0, s_X5_over_0n, s_X5_over_0z, s_X5_over_1, s_X5_over_2, s_X5_over_3, s_X5_over_6, s_X5_over_7, s_X5_over_7n, s_X5_over_7z, s_X5_over_8, s_X5_over_9, s_X5_over_12, s_X5_over_15, s_X5_over_15n, s_X5_over_15z, s_X5_over_16, s_X5_over_17, s_X5_over_17n, s_X5_over_17z, s_X5_over_18, s_X5_over_21, s_X5_over_22, s_X5_over_25, tl_some, tl_none, cv_int, cv_ref, cv_null, cv_long, cat_rf, jcv_nil, jcat_cons, jv_none, jv_int, jv_ref, jv_null, jw_rf, rf_some, rf_none, bz_0, bz_1, i1_0, i0_0, if_true, if_false, ite_self, List.nil_append, List.cons_append, Nat.reduceAdd, Nat.reduceLeDiff, Nat.zero_le, Nat.le_refl, and_self, and_true, true_and, not_true_eq_false, not_false_eq_true, reduceIte, hm, p64, t64, n64, p65, t65, n65, p66, t66, n66, p67, t67, n67, p68, t68, n68, p69, t69, n69, p70, t70, n70, p71, t71, n71, p72, t72, n72, p73, t73, n73, p74, t74, n74, p75, t75, n75, p76, t76, n76, p77, t77, n77, p78, t78, n78, ovl_7, ups_ovl_7, ovl_64, ups_ovl_64, ovl_65, ups_ovl_65, ovl_66, ups_ovl_66, ovl_67, ups_ovl_67, ovl_68, ups_ovl_68, ovl_69, ups_ovl_69, ovl_70, ups_ovl_70, ovl_71, ups_ovl_71, ovl_72, ups_ovl_72, ovl_73, ups_ovl_73, ovl_74, ups_ovl_74, ovl_75, ups_ovl_75, ovl_76, ups_ovl_76, ovl_78, ups_ovl_78, ovJ_77, ups_ovJ_77, m_findN hL0 hw, m_isOnN hL0 hw hgl]
  unfold overA turnA
  by_cases h0 : gF A 5 0 = 0
  · simp only [if_pos h0, s_X5_over_0, s_X5_over_0n, s_X5_over_0z, s_X5_over_1, s_X5_over_2, s_X5_over_3, s_X5_over_6, s_X5_over_7, s_X5_over_7n, s_X5_over_7z, s_X5_over_8, s_X5_over_9, s_X5_over_12, s_X5_over_15, s_X5_over_15n, s_X5_over_15z, s_X5_over_16, s_X5_over_17, s_X5_over_17n, s_X5_over_17z, s_X5_over_18, s_X5_over_21, s_X5_over_22, s_X5_over_25, tl_some, tl_none, cv_int, cv_ref, cv_null, cv_long, cat_rf, jcv_nil, jcat_cons, jv_none, jv_int, jv_ref, jv_null, jw_rf, rf_some, rf_none, bz_0, bz_1, i1_0, i0_0, if_true, if_false, ite_self, List.nil_append, List.cons_append, Nat.reduceAdd, Nat.reduceLeDiff, Nat.zero_le, Nat.le_refl, and_self, and_true, true_and, not_true_eq_false, not_false_eq_true, reduceIte]
  · by_cases h1 : isOA A (gF A 5 0)
    · have h3 : lnUp A (onA A (gF A 5 0)) 0 := lnUp_same rfl hl
      have h4 := h3.2.2
      have e3 : onA A (gF A 5 0) 7 3 = A 7 3 := rfl
      simp only [if_neg h0, if_pos h1, s_X5_over_0, s_X5_over_0n, s_X5_over_0z, s_X5_over_1, s_X5_over_2, s_X5_over_3, s_X5_over_6, s_X5_over_7, s_X5_over_7n, s_X5_over_7z, s_X5_over_8, s_X5_over_9, s_X5_over_12, s_X5_over_15, s_X5_over_15n, s_X5_over_15z, s_X5_over_16, s_X5_over_17, s_X5_over_17n, s_X5_over_17z, s_X5_over_18, s_X5_over_21, s_X5_over_22, s_X5_over_25, tl_some, tl_none, cv_int, cv_ref, cv_null, cv_long, cat_rf, jcv_nil, jcat_cons, jv_none, jv_int, jv_ref, jv_null, jw_rf, rf_some, rf_none, bz_0, bz_1, i1_0, i0_0, if_true, if_false, ite_self, List.nil_append, List.cons_append, Nat.reduceAdd, Nat.reduceLeDiff, Nat.zero_le, Nat.le_refl, and_self, and_true, true_and, not_true_eq_false, not_false_eq_true, reduceIte, hm, p64, t64, n64, p65, t65, n65, p66, t66, n66, p67, t67, n67, p68, t68, n68, p69, t69, n69, p70, t70, n70, p71, t71, n71, p72, t72, n72, p73, t73, n73, p74, t74, n74, p75, t75, n75, p76, t76, n76, p77, t77, n77, p78, t78, n78, ovl_7, ups_ovl_7, ovl_64, ups_ovl_64, ovl_65, ups_ovl_65, ovl_66, ups_ovl_66, ovl_67, ups_ovl_67, ovl_68, ups_ovl_68, ovl_69, ups_ovl_69, ovl_70, ups_ovl_70, ovl_71, ups_ovl_71, ovl_72, ups_ovl_72, ovl_73, ups_ovl_73, ovl_74, ups_ovl_74, ovl_75, ups_ovl_75, ovl_76, ups_ovl_76, ovl_78, ups_ovl_78, ovJ_77, ups_ovJ_77, e3, m_putFrom hL0 ((onA_fr A _).wf hw) h3.1 (Nat.pos_of_ne_zero h0) (by rw [(onA_fr A _).ng]; exact hgl) (by omega)]
    · simp only [if_neg h0, if_neg h1, s_X5_over_0, s_X5_over_0n, s_X5_over_0z, s_X5_over_1, s_X5_over_2, s_X5_over_3, s_X5_over_6, s_X5_over_7, s_X5_over_7n, s_X5_over_7z, s_X5_over_8, s_X5_over_9, s_X5_over_12, s_X5_over_15, s_X5_over_15n, s_X5_over_15z, s_X5_over_16, s_X5_over_17, s_X5_over_17n, s_X5_over_17z, s_X5_over_18, s_X5_over_21, s_X5_over_22, s_X5_over_25, tl_some, tl_none, cv_int, cv_ref, cv_null, cv_long, cat_rf, jcv_nil, jcat_cons, jv_none, jv_int, jv_ref, jv_null, jw_rf, rf_some, rf_none, bz_0, bz_1, i1_0, i0_0, if_true, if_false, ite_self, List.nil_append, List.cons_append, Nat.reduceAdd, Nat.reduceLeDiff, Nat.zero_le, Nat.le_refl, and_self, and_true, true_and, not_true_eq_false, not_false_eq_true, reduceIte]
end
