-- ===== the parts of the state that describe the report: what calls between initiate and terminate leave as they are =====
def sS (κ j : Nat) : Bool := κ == 66 || (κ == 67 || (κ == 68 || (κ == 69 || (κ == 70 || (κ == 74 || (κ == 75 || (κ == 76 || (κ == 7 && (j == 1 || (j == 2 || (j == 3 || (j == 4 || (j == 5 || j == 6)))))))))))))
def fs (A B : Nat → Nat → Int32) : Prop := ∀ κ j, sS κ j = true → B κ j = A κ j
theorem fs_rf (A : Nat → Nat → Int32) : fs A A := fun _ _ _ => rfl
theorem fs.tr {A B C : Nat → Nat → Int32} (h : fs A B) (h2 : fs B C) : fs A C := fun κ j hs => (h2 κ j hs).trans (h κ j hs)
theorem fs_up {A B : Nat → Nat → Int32} {κ j : Nat} {v : Int32} (h : fs A B) (hs : sS κ j = false) : fs A (upA B κ j v) := fun κ' j' h' => by
  rw [upA_ap, if_neg (fun z => by rw [z.1, z.2, hs] at h'; cases h')]
  exact h κ' j' h'
theorem sS_sB {κ j : Nat} (h : sS κ j = true) : sB κ j = false := by
  unfold sS at h
  unfold sB
  simp only [Bool.or_eq_true, Bool.and_eq_true, beq_iff_eq] at h
  simp only [Bool.or_eq_false_iff, Bool.and_eq_false_iff, beq_eq_false_iff_ne, ne_eq]
  omega
theorem fr.fs {A B : Nat → Nat → Int32} (h : fr A B) : fs A B := fun κ j hs => h κ j (sS_sB hs)
theorem fs.ng {A B : Nat → Nat → Int32} (h : fs A B) : ngA B = ngA A := by unfold ngA; rw [h 7 5 rfl]
theorem fs.ns {A B : Nat → Nat → Int32} (h : fs A B) : nsA B = nsA A := by unfold nsA; rw [h 7 6 rfl]
theorem fs.nc {A B : Nat → Nat → Int32} (h : fs A B) : ncA B = ncA A := by unfold ncA; rw [h 7 4 rfl]
theorem fs.mn {A B : Nat → Nat → Int32} (h : fs A B) (i : Nat) : mnA B i = mnA A i := by unfold mnA; rw [h 68 i rfl]
theorem fs.wf {A B : Nat → Nat → Int32} (h : fs A B) (hw : WfA A) : WfA B := by
  obtain ⟨h1, h2, h3, h4, h5⟩ := hw
  refine ⟨by rw [h.ng, h 7 5 rfl]; exact h1, by rw [h.ns, h 7 6 rfl]; exact h2, by rw [h.nc, h 7 4 rfl]; exact h3, fun i => by rw [h.mn, h 68 i rfl]; exact h4 i, fun s h6 h7 => ?_⟩
  rw [h 74 s rfl, h.ng]
  exact h5 s h6 (by rw [← h.ns]; exact h7)
theorem fndN_fs {A B : Nat → Nat → Int32} (h : fs A B) (kd lv : Int32) : ∀ n, fndN B kd lv n = fndN A kd lv n
  | 0 => rfl
  | n + 1 => by
    unfold fndN
    rw [h 66 (n + 1) rfl, h 67 (n + 1) rfl, fndN_fs h kd lv n]
theorem fs.gf {A B : Nat → Nat → Int32} (h : fs A B) (kd lv : Int32) : gF B kd lv = gF A kd lv := by
  unfold gF
  rw [h.ng, fndN_fs h]
theorem nIz {n : Nat} (h : ¬ n = 0) (hn : n < 2 ^ 31) : ¬ nI n = 0 := fun z => h ((nI_eq (a := n) (b := 0) hn (by omega)).mp z)
theorem nI_0e : nI 0 = 0 := rfl
theorem nI_dec (k : Nat) : nI (k + 1) + (-1 : Int32) = nI k := by
  have h : nI (k + 1) = nI k + 1 := (nIs k).symm
  rw [h, Int32.add_assoc]
  have e : (1 : Int32) + -1 = 0 := by decide
  rw [e, Int32.add_zero]
-- ===== heads =====
def headA (A : Nat → Nat → Int32) (lv : Nat) : Nat → Nat → Int32 := inBodyA A (gF A 2 (nI lv)) (if lv = 0 then 0 else A 64 lv)
theorem inBodyA_0 (A : Nat → Nat → Int32) (v : Int32) : inBodyA A 0 v = A := rfl
/-- n heads from level lo on -/
def hdA (A : Nat → Nat → Int32) (lo : Nat) : Nat → Nat → Nat → Int32
  | 0 => A
  | n + 1 => headA (hdA A lo n) (lo + n)
theorem headA_fr (A : Nat → Nat → Int32) (lv : Nat) : fr A (headA A lv) := inBodyA_fr A _ _
theorem hdA_fr (A : Nat → Nat → Int32) (lo : Nat) : ∀ n, fr A (hdA A lo n)
  | 0 => fr_rf A
  | n + 1 => (hdA_fr A lo n).tr (headA_fr _ _)
theorem headA_up {A : Nat → Nat → Int32} {lv : Nat} (hw : WfA A) (hl : LnA A) (hb : ln A + 30 ≤ 100000) : lnUp A (headA A lv) 30 := inBodyA_up hw hl hb
theorem hdA_up {A : Nat → Nat → Int32} {lo : Nat} (hw : WfA A) (hl : LnA A) : ∀ n, ln A + n * 30 ≤ 100000 → lnUp A (hdA A lo n) (n * 30)
  | 0, _ => (lnUp_same rfl hl).le (by omega)
  | n + 1, hb => by
    have h1 := hdA_up (A := A) (lo := lo) hw hl n (by omega)
    have h2 := h1.2.2
    exact (h1.tr (headA_up ((hdA_fr A lo n).wf hw) h1.1 (by omega))).le (by omega)
-- ===== sums =====
def fsD (A : Nat → Nat → Int32) (gi : Nat) : Nat → Nat → Nat
  | 0, acc => acc
  | k + 1, acc => fsD A gi k (if A 74 (k + 1) = nI gi then k + 1 else acc)
/-- the first sum of a group, 0 if there is none -/
def fsA (A : Nat → Nat → Int32) (gi : Nat) : Nat := fsD A gi (nsA A) 0
theorem fsD_le (A : Nat → Nat → Int32) (gi : Nat) : ∀ k acc n, k ≤ n → acc ≤ n → fsD A gi k acc ≤ n
  | 0, acc, n, _, h => h
  | k + 1, acc, n, hk, h => by
    unfold fsD
    refine fsD_le A gi k _ n (by omega) ?_
    split <;> omega
theorem fsA_le (A : Nat → Nat → Int32) (gi : Nat) : fsA A gi ≤ nsA A := fsD_le A gi _ _ _ (Nat.le_refl _) (Nat.zero_le _)
def rI (A : Nat → Nat → Int32) (k : Nat) (T : Nat → Int64) : Nat → Nat → Int64
  | 0 => T
  | j + 1 => upT (rI A k T j) (j + 1) (rI A k T j (j + 1) + (if A 75 (j + 1) = 0 - nI k then rI A k T j k else 0))
def rO (A : Nat → Nat → Int32) (gi n : Nat) (T : Nat → Int64) : Nat → Nat → Int64
  | 0 => T
  | k + 1 => if A 74 (k + 1) = nI gi then rI A (k + 1) (rO A gi n T k) n else rO A gi n T k
def rsT (A : Nat → Nat → Int32) (lv : Nat) (T : Nat → Int64) : Nat → Nat → Int64
  | 0 => T
  | s + 1 => upT (rsT A lv T s) (s + 1) (if A 76 (s + 1) = nI lv then 0 else rsT A lv T s (s + 1))
theorem rI_fs {A B : Nat → Nat → Int32} (h : fs A B) (k : Nat) (T : Nat → Int64) : ∀ j, rI B k T j = rI A k T j
  | 0 => rfl
  | j + 1 => by
    unfold rI
    rw [rI_fs h k T j, h 75 (j + 1) rfl]
theorem rO_fs {A B : Nat → Nat → Int32} (h : fs A B) (gi n : Nat) (T : Nat → Int64) : ∀ k, rO B gi n T k = rO A gi n T k
  | 0 => rfl
  | k + 1 => by
    unfold rO
    rw [rO_fs h gi n T k, h 74 (k + 1) rfl, rI_fs h]
theorem rsT_fs {A B : Nat → Nat → Int32} (h : fs A B) (lv : Nat) (T : Nat → Int64) : ∀ s, rsT B lv T s = rsT A lv T s
  | 0 => rfl
  | s + 1 => by
    unfold rsT
    rw [rsT_fs h lv T s, h 76 (s + 1) rfl]
def footV (A : Nat → Nat → Int32) (T : Nat → Int64) (lv : Nat) : Int32 := if fsA A (gF A 4 (nI lv)) = 0 then (if lv = 0 then 0 else A 65 lv) else (T (fsA A (gF A 4 (nI lv)))).toInt32
def footA (A : Nat → Nat → Int32) (T : Nat → Int64) (lv : Nat) : Nat → Nat → Int32 := inBodyA A (gF A 4 (nI lv)) (footV A T lv)
def rollT (A : Nat → Nat → Int32) (T : Nat → Int64) (lv : Nat) : Nat → Int64 := if gF A 4 (nI lv) = 0 then T else rO A (gF A 4 (nI lv)) (nsA A) T (nsA A)
def footT (A : Nat → Nat → Int32) (T : Nat → Int64) (lv : Nat) : Nat → Int64 := rsT A lv (rollT A T lv) (nsA A)
theorem footA_fr (A : Nat → Nat → Int32) (T : Nat → Int64) (lv : Nat) : fr A (footA A T lv) := inBodyA_fr A _ _
theorem footA_up {A : Nat → Nat → Int32} {T : Nat → Int64} {lv : Nat} (hw : WfA A) (hl : LnA A) (hb : ln A + 30 ≤ 100000) : lnUp A (footA A T lv) 30 := inBodyA_up hw hl hb
section
variable {sv : Nat → Value} {d t u : Nat} {Q : Option Value → jM → Prop} {g : jG} {I : tI} {J : tJ} {P : tP} {A : Nat → Nat → Int32} {T : Nat → Int64} {m : Nat} {x y z : Int32}
theorem m_head (hL : MLay g P m) (hw : WfA A) (hl : LnA A) {lv : Nat} (hlv : lv ≤ 5) (hb : ln A + 30 ≤ 100000) : Ev sv (d + 5) (77, 0, [some (.ref m), some (.int (nI lv)), none], []) (tv t u g (ovl I m A) J P) Q ↔ Q none (tv t u g (ovl I m (headA A lv)) J P) := by
  have hL0 := hL
  obtain ⟨hm, p64, t64, n64, p65, t65, n65, p66, t66, n66, p67, t67, n67, p68, t68, n68, p69, t69, n69, p70, t70, n70, p71, t71, n71, p72, t72, n72, p73, t73, n73, p74, t74, n74, p75, t75, n75, p76, t76, n76, p77, t77, n77, p78, t78, n78⟩ := hL
  have h20 := hw.1.2
  have hgl := gF_le A 2 (nI lv)
  have hj : jin (nI lv) 6 = true := jin_nI (by omega) (by omega)
  have hc : (nI lv).toNatClampNeg = lv := nI_clamp (by omega)
  unfold headA
  by_cases h0 : gF A 2 (nI lv) = 0
  · simp only [s_X5_head_0, s_X5_head_0n, s_X5_head_0z, s_X5_head_1, s_X5_head_2, s_X5_head_3, s_X5_head_6, s_X5_head_7, s_X5_head_8, s_X5_head_11, s_X5_head_11n, s_X5_head_11z, s_X5_head_12, s_X5_head_13, s_X5_head_14, s_X5_head_17, s_X5_head_18, s_X5_head_21, s_X5_head_21n, s_X5_head_21z, s_X5_head_22, s_X5_head_25, s_X5_head_26, s_X5_head_27, s_X5_head_30, tl_some, tl_none, cv_int, cv_ref, cv_null, cv_long, cat_rf, jcv_nil, jcat_cons, jv_none, jv_int, jv_ref, jv_null, jw_rf, rf_some, rf_none, bz_0, bz_1, i1_0, i0_0, if_true, if_false, ite_self, List.nil_append, List.cons_append, Nat.reduceAdd, Nat.reduceLeDiff, Nat.zero_le, Nat.le_refl, and_self, and_true, true_and, not_true_eq_false, not_false_eq_true, reduceIte, hm, p64, t64, n64, p65, t65, n65, p66, t66, n66, p67, t67, n67, p68, t68, n68, p69, t69, n69, p70, t70, n70, p71, t71, n71, p72, t72, n72, p73, t73, n73, p74, t74, n74, p75, t75, n75, p76, t76, n76, p77, t77, n77, p78, t78, n78, ovl_7, ups_ovl_7, ovl_64, ups_ovl_64, ovl_65, ups_ovl_65, ovl_66, ups_ovl_66, ovl_67, ups_ovl_67, ovl_68, ups_ovl_68, ovl_69, ups_ovl_69, ovl_70, ups_ovl_70, ovl_71, ups_ovl_71, ovl_72, ups_ovl_72, ovl_73, ups_ovl_73, ovl_74, ups_ovl_74, ovl_75, ups_ovl_75, ovl_76, ups_ovl_76, ovl_78, ups_ovl_78, ovJ_77, ups_ovJ_77, m_findN hL0 hw, h0, nI_0e, inBodyA_0]
  · have h1 := nIz h0 (by omega)
    have hib := fun (Q : Option Value → jM → Prop) (v : Int32) => m_inBody (Q := Q) (v := v) (sv := sv) (d := d) (t := t) (u := u) (I := I) (J := J) hL0 hw hl hgl hb
    by_cases h2 : lv = 0
    · subst h2
      simp only [nI_0e] at h1 hib hgl
      simp only [s_X5_head_0, s_X5_head_0n, s_X5_head_0z, s_X5_head_1, s_X5_head_2, s_X5_head_3, s_X5_head_6, s_X5_head_7, s_X5_head_8, s_X5_head_11, s_X5_head_11n, s_X5_head_11z, s_X5_head_12, s_X5_head_13, s_X5_head_14, s_X5_head_17, s_X5_head_18, s_X5_head_21, s_X5_head_21n, s_X5_head_21z, s_X5_head_22, s_X5_head_25, s_X5_head_26, s_X5_head_27, s_X5_head_30, tl_some, tl_none, cv_int, cv_ref, cv_null, cv_long, cat_rf, jcv_nil, jcat_cons, jv_none, jv_int, jv_ref, jv_null, jw_rf, rf_some, rf_none, bz_0, bz_1, i1_0, i0_0, if_true, if_false, ite_self, List.nil_append, List.cons_append, Nat.reduceAdd, Nat.reduceLeDiff, Nat.zero_le, Nat.le_refl, and_self, and_true, true_and, not_true_eq_false, not_false_eq_true, reduceIte, hm, p64, t64, n64, p65, t65, n65, p66, t66, n66, p67, t67, n67, p68, t68, n68, p69, t69, n69, p70, t70, n70, p71, t71, n71, p72, t72, n72, p73, t73, n73, p74, t74, n74, p75, t75, n75, p76, t76, n76, p77, t77, n77, p78, t78, n78, ovl_7, ups_ovl_7, ovl_64, ups_ovl_64, ovl_65, ups_ovl_65, ovl_66, ups_ovl_66, ovl_67, ups_ovl_67, ovl_68, ups_ovl_68, ovl_69, ups_ovl_69, ovl_70, ups_ovl_70, ovl_71, ups_ovl_71, ovl_72, ups_ovl_72, ovl_73, ups_ovl_73, ovl_74, ups_ovl_74, ovl_75, ups_ovl_75, ovl_76, ups_ovl_76, ovl_78, ups_ovl_78, ovJ_77, ups_ovJ_77, m_findN hL0 hw, h1, nI_0e, hib]
    · have h3 := nIz h2 (by omega)
      simp only [s_X5_head_0, s_X5_head_0n, s_X5_head_0z, s_X5_head_1, s_X5_head_2, s_X5_head_3, s_X5_head_6, s_X5_head_7, s_X5_head_8, s_X5_head_11, s_X5_head_11n, s_X5_head_11z, s_X5_head_12, s_X5_head_13, s_X5_head_14, s_X5_head_17, s_X5_head_18, s_X5_head_21, s_X5_head_21n, s_X5_head_21z, s_X5_head_22, s_X5_head_25, s_X5_head_26, s_X5_head_27, s_X5_head_30, tl_some, tl_none, cv_int, cv_ref, cv_null, cv_long, cat_rf, jcv_nil, jcat_cons, jv_none, jv_int, jv_ref, jv_null, jw_rf, rf_some, rf_none, bz_0, bz_1, i1_0, i0_0, if_true, if_false, ite_self, List.nil_append, List.cons_append, Nat.reduceAdd, Nat.reduceLeDiff, Nat.zero_le, Nat.le_refl, and_self, and_true, true_and, not_true_eq_false, not_false_eq_true, reduceIte, hm, p64, t64, n64, p65, t65, n65, p66, t66, n66, p67, t67, n67, p68, t68, n68, p69, t69, n69, p70, t70, n70, p71, t71, n71, p72, t72, n72, p73, t73, n73, p74, t74, n74, p75, t75, n75, p76, t76, n76, p77, t77, n77, p78, t78, n78, ovl_7, ups_ovl_7, ovl_64, ups_ovl_64, ovl_65, ups_ovl_65, ovl_66, ups_ovl_66, ovl_67, ups_ovl_67, ovl_68, ups_ovl_68, ovl_69, ups_ovl_69, ovl_70, ups_ovl_70, ovl_71, ups_ovl_71, ovl_72, ups_ovl_72, ovl_73, ups_ovl_73, ovl_74, ups_ovl_74, ovl_75, ups_ovl_75, ovl_76, ups_ovl_76, ovl_78, ups_ovl_78, ovJ_77, ups_ovJ_77, m_findN hL0 hw, h1, h2, h3, hj, hc, hib]
theorem m_firstSum_loop (hL : MLay g P m) (hw : WfA A) {gi : Nat} : ∀ k acc, k ≤ nsA A → (Ev sv d (78, 7, [some (.ref m), some (.int (nI gi)), some (.int (nI acc)), some (.int (nI k))], []) (tv t u g (ovl I m A) J P) Q ↔ Q (some (.int (nI (fsD A gi k acc)))) (tv t u g (ovl I m A) J P)) := by
  obtain ⟨hm, p64, t64, n64, p65, t65, n65, p66, t66, n66, p67, t67, n67, p68, t68, n68, p69, t69, n69, p70, t70, n70, p71, t71, n71, p72, t72, n72, p73, t73, n73, p74, t74, n74, p75, t75, n75, p76, t76, n76, p77, t77, n77, p78, t78, n78⟩ := hL
  have h20 := hw.2.1.2
  intro k
  induction k with
  | zero =>
    intro acc hk
    have h1 : ¬ (0 : Int32) < 0 := by decide
    refine s_X5_firstSum_7.trans ?_
    simp only [s_X5_firstSum_0, s_X5_firstSum_1, s_X5_firstSum_2, s_X5_firstSum_2n, s_X5_firstSum_2z, s_X5_firstSum_3, s_X5_firstSum_6, s_X5_firstSum_8, s_X5_firstSum_11, s_X5_firstSum_11n, s_X5_firstSum_11z, s_X5_firstSum_12, s_X5_firstSum_15, s_X5_firstSum_16, s_X5_firstSum_17, s_X5_firstSum_18, s_X5_firstSum_21, s_X5_firstSum_22, s_X5_firstSum_25, s_X5_firstSum_26, s_X5_firstSum_27, s_X5_firstSum_30, s_X5_firstSum_33, s_X5_firstSum_34, tl_some, tl_none, cv_int, cv_ref, cv_null, cv_long, cat_rf, jcv_nil, jcat_cons, jv_none, jv_int, jv_ref, jv_null, jw_rf, rf_some, rf_none, bz_0, bz_1, i1_0, i0_0, if_true, if_false, ite_self, List.nil_append, List.cons_append, Nat.reduceAdd, Nat.reduceLeDiff, Nat.zero_le, Nat.le_refl, and_self, and_true, true_and, not_true_eq_false, not_false_eq_true, reduceIte, hm, p64, t64, n64, p65, t65, n65, p66, t66, n66, p67, t67, n67, p68, t68, n68, p69, t69, n69, p70, t70, n70, p71, t71, n71, p72, t72, n72, p73, t73, n73, p74, t74, n74, p75, t75, n75, p76, t76, n76, p77, t77, n77, p78, t78, n78, ovl_7, ups_ovl_7, ovl_64, ups_ovl_64, ovl_65, ups_ovl_65, ovl_66, ups_ovl_66, ovl_67, ups_ovl_67, ovl_68, ups_ovl_68, ovl_69, ups_ovl_69, ovl_70, ups_ovl_70, ovl_71, ups_ovl_71, ovl_72, ups_ovl_72, ovl_73, ups_ovl_73, ovl_74, ups_ovl_74, ovl_75, ups_ovl_75, ovl_76, ups_ovl_76, ovl_78, ups_ovl_78, ovJ_77, ups_ovJ_77, nI_0e, h1, fsD]
  | succ k ih =>
    intro acc hk
    have h1 : (0 : Int32) < nI (k + 1) := nI_lt (a := 0) (by omega) (by omega)
    have hj : jin (nI (k + 1)) 21 = true := jin_nI (by omega) (by omega)
    have hc : (nI (k + 1)).toNatClampNeg = k + 1 := nI_clamp (by omega)
    unfold fsD
    refine Iff.trans ?_ (ih _ (by omega))
    refine s_X5_firstSum_7.trans ?_
    by_cases c : A 74 (k + 1) = nI gi
    · simp only [s_X5_firstSum_0, s_X5_firstSum_1, s_X5_firstSum_2, s_X5_firstSum_2n, s_X5_firstSum_2z, s_X5_firstSum_3, s_X5_firstSum_6, s_X5_firstSum_8, s_X5_firstSum_11, s_X5_firstSum_11n, s_X5_firstSum_11z, s_X5_firstSum_12, s_X5_firstSum_15, s_X5_firstSum_16, s_X5_firstSum_17, s_X5_firstSum_18, s_X5_firstSum_21, s_X5_firstSum_22, s_X5_firstSum_25, s_X5_firstSum_26, s_X5_firstSum_27, s_X5_firstSum_30, s_X5_firstSum_33, s_X5_firstSum_34, tl_some, tl_none, cv_int, cv_ref, cv_null, cv_long, cat_rf, jcv_nil, jcat_cons, jv_none, jv_int, jv_ref, jv_null, jw_rf, rf_some, rf_none, bz_0, bz_1, i1_0, i0_0, if_true, if_false, ite_self, List.nil_append, List.cons_append, Nat.reduceAdd, Nat.reduceLeDiff, Nat.zero_le, Nat.le_refl, and_self, and_true, true_and, not_true_eq_false, not_false_eq_true, reduceIte, hm, p64, t64, n64, p65, t65, n65, p66, t66, n66, p67, t67, n67, p68, t68, n68, p69, t69, n69, p70, t70, n70, p71, t71, n71, p72, t72, n72, p73, t73, n73, p74, t74, n74, p75, t75, n75, p76, t76, n76, p77, t77, n77, p78, t78, n78, ovl_7, ups_ovl_7, ovl_64, ups_ovl_64, ovl_65, ups_ovl_65, ovl_66, ups_ovl_66, ovl_67, ups_ovl_67, ovl_68, ups_ovl_68, ovl_69, ups_ovl_69, ovl_70, ups_ovl_70, ovl_71, ups_ovl_71, ovl_72, ups_ovl_72, ovl_73, ups_ovl_73, ovl_74, ups_ovl_74, ovl_75, ups_ovl_75, ovl_76, ups_ovl_76, ovl_78, ups_ovl_78, ovJ_77, ups_ovJ_77, h1, hj, hc, c, nI_dec]
    · simp only [s_X5_firstSum_0, s_X5_firstSum_1, s_X5_firstSum_2, s_X5_firstSum_2n, s_X5_firstSum_2z, s_X5_firstSum_3, s_X5_firstSum_6, s_X5_firstSum_8, s_X5_firstSum_11, s_X5_firstSum_11n, s_X5_firstSum_11z, s_X5_firstSum_12, s_X5_firstSum_15, s_X5_firstSum_16, s_X5_firstSum_17, s_X5_firstSum_18, s_X5_firstSum_21, s_X5_firstSum_22, s_X5_firstSum_25, s_X5_firstSum_26, s_X5_firstSum_27, s_X5_firstSum_30, s_X5_firstSum_33, s_X5_firstSum_34, tl_some, tl_none, cv_int, cv_ref, cv_null, cv_long, cat_rf, jcv_nil, jcat_cons, jv_none, jv_int, jv_ref, jv_null, jw_rf, rf_some, rf_none, bz_0, bz_1, i1_0, i0_0, if_true, if_false, ite_self, List.nil_append, List.cons_append, Nat.reduceAdd, Nat.reduceLeDiff, Nat.zero_le, Nat.le_refl, and_self, and_true, true_and, not_true_eq_false, not_false_eq_true, reduceIte, hm, p64, t64, n64, p65, t65, n65, p66, t66, n66, p67, t67, n67, p68, t68, n68, p69, t69, n69, p70, t70, n70, p71, t71, n71, p72, t72, n72, p73, t73, n73, p74, t74, n74, p75, t75, n75, p76, t76, n76, p77, t77, n77, p78, t78, n78, ovl_7, ups_ovl_7, ovl_64, ups_ovl_64, ovl_65, ups_ovl_65, ovl_66, ups_ovl_66, ovl_67, ups_ovl_67, ovl_68, ups_ovl_68, ovl_69, ups_ovl_69, ovl_70, ups_ovl_70, ovl_71, ups_ovl_71, ovl_72, ups_ovl_72, ovl_73, ups_ovl_73, ovl_74, ups_ovl_74, ovl_75, ups_ovl_75, ovl_76, ups_ovl_76, ovl_78, ups_ovl_78, ovJ_77, ups_ovJ_77, h1, hj, hc, c, nI_dec]
theorem m_firstSum (hL : MLay g P m) (hw : WfA A) {gi : Nat} : Ev sv d (78, 0, [some (.ref m), some (.int (nI gi)), none, none], []) (tv t u g (ovl I m A) J P) Q ↔ Q (some (.int (nI (fsA A gi)))) (tv t u g (ovl I m A) J P) := by
  have hL0 := hL
  obtain ⟨hm, p64, t64, n64, p65, t65, n65, p66, t66, n66, p67, t67, n67, p68, t68, n68, p69, t69, n69, p70, t70, n70, p71, t71, n71, p72, t72, n72, p73, t73, n73, p74, t74, n74, p75, t75, n75, p76, t76, n76, p77, t77, n77, p78, t78, n78⟩ := hL
  simp only [s_X5_firstSum_0, s_X5_firstSum_1, s_X5_firstSum_2, s_X5_firstSum_2n, s_X5_firstSum_2z, s_X5_firstSum_3, s_X5_firstSum_6, s_X5_firstSum_8, s_X5_firstSum_11, s_X5_firstSum_11n, s_X5_firstSum_11z, s_X5_firstSum_12, s_X5_firstSum_15, s_X5_firstSum_16, s_X5_firstSum_17, s_X5_firstSum_18, s_X5_firstSum_21, s_X5_firstSum_22, s_X5_firstSum_25, s_X5_firstSum_26, s_X5_firstSum_27, s_X5_firstSum_30, s_X5_firstSum_33, s_X5_firstSum_34, tl_some, tl_none, cv_int, cv_ref, cv_null, cv_long, cat_rf, jcv_nil, jcat_cons, jv_none, jv_int, jv_ref, jv_null, jw_rf, rf_some, rf_none, bz_0, bz_1, i1_0, i0_0, if_true, if_false, ite_self, List.nil_append, List.cons_append, Nat.reduceAdd, Nat.reduceLeDiff, Nat.zero_le, Nat.le_refl, and_self, and_true, true_and, not_true_eq_false, not_false_eq_true, reduceIte, hm, p64, t64, n64, p65, t65, n65, p66, t66, n66, p67, t67, n67, p68, t68, n68, p69, t69, n69, p70, t70, n70, p71, t71, n71, p72, t72, n72, p73, t73, n73, p74, t74, n74, p75, t75, n75, p76, t76, n76, p77, t77, n77, p78, t78, n78, ovl_7, ups_ovl_7, ovl_64, ups_ovl_64, ovl_65, ups_ovl_65, ovl_66, ups_ovl_66, ovl_67, ups_ovl_67, ovl_68, ups_ovl_68, ovl_69, ups_ovl_69, ovl_70, ups_ovl_70, ovl_71, ups_ovl_71, ovl_72, ups_ovl_72, ovl_73, ups_ovl_73, ovl_74, ups_ovl_74, ovl_75, ups_ovl_75, ovl_76, ups_ovl_76, ovl_78, ups_ovl_78, ovJ_77, ups_ovJ_77, hw.2.1.1]
  exact m_firstSum_loop hL0 hw (nsA A) 0 (Nat.le_refl _)
theorem m_foot_inner (hL : MLay g P m) (hw : WfA A) {gi k : Nat} {l1 l3 : Int32} (hk1 : 1 ≤ k) (hk : k ≤ nsA A) (hc : A 74 k = nI gi) : ∀ n j, j + n = nsA A →
    (Ev sv d (79, 65, [some (.ref m), some (.int l1), some (.int (nI gi)), some (.int l3), some (.int (nI k)), some (.int (nI (j + 1)))], []) (tv t u g (ovl I m A) (ovJ J m (rI A k T j)) P) Q ↔ Ev sv d (79, 126, [some (.ref m), some (.int l1), some (.int (nI gi)), some (.int l3), some (.int (nI k)), some (.int (nI (nsA A + 1)))], []) (tv t u g (ovl I m A) (ovJ J m (rI A k T (nsA A))) P) Q) := by
  obtain ⟨hm, p64, t64, n64, p65, t65, n65, p66, t66, n66, p67, t67, n67, p68, t68, n68, p69, t69, n69, p70, t70, n70, p71, t71, n71, p72, t72, n72, p73, t73, n73, p74, t74, n74, p75, t75, n75, p76, t76, n76, p77, t77, n77, p78, t78, n78⟩ := hL
  have h20 := hw.2.1
  have hjk : jin (nI k) 21 = true := jin_nI (by omega) (by omega)
  have hck : (nI k).toNatClampNeg = k := nI_clamp (by omega)
  intro n
  induction n with
  | zero =>
    intro j hj
    have e : j = nsA A := by omega
    have h1 : nI (nsA A) < nI (j + 1) := nI_lt (by omega) (by omega)
    refine s_X5_foot_65.trans ?_
    simp only [s_X5_foot_67, s_X5_foot_68, s_X5_foot_71, tl_some, tl_none, cv_int, cv_ref, cv_null, cv_long, cat_rf, jcv_nil, jcat_cons, jv_none, jv_int, jv_ref, jv_null, jw_rf, rf_some, rf_none, bz_0, bz_1, i1_0, i0_0, if_true, if_false, ite_self, List.nil_append, List.cons_append, Nat.reduceAdd, Nat.reduceLeDiff, Nat.zero_le, Nat.le_refl, and_self, and_true, true_and, not_true_eq_false, not_false_eq_true, reduceIte, hm, p64, t64, n64, p65, t65, n65, p66, t66, n66, p67, t67, n67, p68, t68, n68, p69, t69, n69, p70, t70, n70, p71, t71, n71, p72, t72, n72, p73, t73, n73, p74, t74, n74, p75, t75, n75, p76, t76, n76, p77, t77, n77, p78, t78, n78, ovl_7, ups_ovl_7, ovl_64, ups_ovl_64, ovl_65, ups_ovl_65, ovl_66, ups_ovl_66, ovl_67, ups_ovl_67, ovl_68, ups_ovl_68, ovl_69, ups_ovl_69, ovl_70, ups_ovl_70, ovl_71, ups_ovl_71, ovl_72, ups_ovl_72, ovl_73, ups_ovl_73, ovl_74, ups_ovl_74, ovl_75, ups_ovl_75, ovl_76, ups_ovl_76, ovl_78, ups_ovl_78, ovJ_77, ups_ovJ_77, h20.1, h1]
    rw [e]
  | succ n ih =>
    intro j hj
    have h1 : ¬ nI (nsA A) < nI (j + 1) := nI_nlt (by omega) (by omega)
    have hjj : jin (nI (j + 1)) 21 = true := jin_nI (by omega) (by omega)
    have hcj : (nI (j + 1)).toNatClampNeg = j + 1 := nI_clamp (by omega)
    have hs := nIs (j + 1)
    refine Iff.trans ?_ (ih (j + 1) (by omega))
    refine s_X5_foot_65.trans ?_
    by_cases c : A 75 (j + 1) = 0 - nI k
    · have e : rI A k T (j + 1) = upT (rI A k T j) (j + 1) (rI A k T j (j + 1) + rI A k T j k) := by
        show upT _ _ (_ + (if A 75 (j + 1) = 0 - nI k then _ else 0)) = _
        rw [if_pos c]
      simp only [s_X5_foot_67, s_X5_foot_68, s_X5_foot_71, s_X5_foot_74, s_X5_foot_75, s_X5_foot_78, s_X5_foot_80, s_X5_foot_81, s_X5_foot_82, s_X5_foot_85, s_X5_foot_86, s_X5_foot_89, s_X5_foot_91, s_X5_foot_92, s_X5_foot_93, s_X5_foot_94, s_X5_foot_97, s_X5_foot_99, s_X5_foot_100, s_X5_foot_101, s_X5_foot_103, s_X5_foot_104, s_X5_foot_107, s_X5_foot_108, s_X5_foot_111, s_X5_foot_113, s_X5_foot_114, s_X5_foot_117, s_X5_foot_118, s_X5_foot_119, s_X5_foot_120, s_X5_foot_123, tl_some, tl_none, cv_int, cv_ref, cv_null, cv_long, cat_rf, jcv_nil, jcat_cons, jv_none, jv_int, jv_ref, jv_null, jw_rf, rf_some, rf_none, bz_0, bz_1, i1_0, i0_0, if_true, if_false, ite_self, List.nil_append, List.cons_append, Nat.reduceAdd, Nat.reduceLeDiff, Nat.zero_le, Nat.le_refl, and_self, and_true, true_and, not_true_eq_false, not_false_eq_true, reduceIte, hm, p64, t64, n64, p65, t65, n65, p66, t66, n66, p67, t67, n67, p68, t68, n68, p69, t69, n69, p70, t70, n70, p71, t71, n71, p72, t72, n72, p73, t73, n73, p74, t74, n74, p75, t75, n75, p76, t76, n76, p77, t77, n77, p78, t78, n78, ovl_7, ups_ovl_7, ovl_64, ups_ovl_64, ovl_65, ups_ovl_65, ovl_66, ups_ovl_66, ovl_67, ups_ovl_67, ovl_68, ups_ovl_68, ovl_69, ups_ovl_69, ovl_70, ups_ovl_70, ovl_71, ups_ovl_71, ovl_72, ups_ovl_72, ovl_73, ups_ovl_73, ovl_74, ups_ovl_74, ovl_75, ups_ovl_75, ovl_76, ups_ovl_76, ovl_78, ups_ovl_78, ovJ_77, ups_ovJ_77, h20.1, h1, hjk, hck, hc, hjj, hcj, hs, c, e]
    · have e : rI A k T (j + 1) = upT (rI A k T j) (j + 1) (rI A k T j (j + 1) + 0) := by
        show upT _ _ (_ + (if A 75 (j + 1) = 0 - nI k then _ else 0)) = _
        rw [if_neg c]
      simp only [s_X5_foot_67, s_X5_foot_68, s_X5_foot_71, s_X5_foot_74, s_X5_foot_75, s_X5_foot_78, s_X5_foot_80, s_X5_foot_81, s_X5_foot_82, s_X5_foot_85, s_X5_foot_86, s_X5_foot_89, s_X5_foot_91, s_X5_foot_92, s_X5_foot_93, s_X5_foot_94, s_X5_foot_97, s_X5_foot_99, s_X5_foot_100, s_X5_foot_101, s_X5_foot_103, s_X5_foot_104, s_X5_foot_107, s_X5_foot_108, s_X5_foot_111, s_X5_foot_113, s_X5_foot_114, s_X5_foot_117, s_X5_foot_118, s_X5_foot_119, s_X5_foot_120, s_X5_foot_123, tl_some, tl_none, cv_int, cv_ref, cv_null, cv_long, cat_rf, jcv_nil, jcat_cons, jv_none, jv_int, jv_ref, jv_null, jw_rf, rf_some, rf_none, bz_0, bz_1, i1_0, i0_0, if_true, if_false, ite_self, List.nil_append, List.cons_append, Nat.reduceAdd, Nat.reduceLeDiff, Nat.zero_le, Nat.le_refl, and_self, and_true, true_and, not_true_eq_false, not_false_eq_true, reduceIte, hm, p64, t64, n64, p65, t65, n65, p66, t66, n66, p67, t67, n67, p68, t68, n68, p69, t69, n69, p70, t70, n70, p71, t71, n71, p72, t72, n72, p73, t73, n73, p74, t74, n74, p75, t75, n75, p76, t76, n76, p77, t77, n77, p78, t78, n78, ovl_7, ups_ovl_7, ovl_64, ups_ovl_64, ovl_65, ups_ovl_65, ovl_66, ups_ovl_66, ovl_67, ups_ovl_67, ovl_68, ups_ovl_68, ovl_69, ups_ovl_69, ovl_70, ups_ovl_70, ovl_71, ups_ovl_71, ovl_72, ups_ovl_72, ovl_73, ups_ovl_73, ovl_74, ups_ovl_74, ovl_75, ups_ovl_75, ovl_76, ups_ovl_76, ovl_78, ups_ovl_78, ovJ_77, ups_ovJ_77, h20.1, h1, hjk, hck, hc, hjj, hcj, hs, c, e]
theorem m_foot_reset (hL : MLay g P m) (hw : WfA A) {lv : Nat} {l2 : Int32} {l4 l5 : Option Value} : ∀ n s, s + n = nsA A →
    (Ev sv d (79, 134, [some (.ref m), some (.int (nI lv)), some (.int l2), some (.int (nI (s + 1))), l4, l5], []) (tv t u g (ovl I m A) (ovJ J m (rsT A lv T s)) P) Q ↔ Q none (tv t u g (ovl I m A) (ovJ J m (rsT A lv T (nsA A))) P)) := by
  obtain ⟨hm, p64, t64, n64, p65, t65, n65, p66, t66, n66, p67, t67, n67, p68, t68, n68, p69, t69, n69, p70, t70, n70, p71, t71, n71, p72, t72, n72, p73, t73, n73, p74, t74, n74, p75, t75, n75, p76, t76, n76, p77, t77, n77, p78, t78, n78⟩ := hL
  have h20 := hw.2.1
  intro n
  induction n with
  | zero =>
    intro s hs
    have e : s = nsA A := by omega
    have h1 : nI (nsA A) < nI (s + 1) := nI_lt (by omega) (by omega)
    refine s_X5_foot_134.trans ?_
    simp only [s_X5_foot_135, s_X5_foot_136, s_X5_foot_139, s_X5_foot_174, tl_some, tl_none, cv_int, cv_ref, cv_null, cv_long, cat_rf, jcv_nil, jcat_cons, jv_none, jv_int, jv_ref, jv_null, jw_rf, rf_some, rf_none, bz_0, bz_1, i1_0, i0_0, if_true, if_false, ite_self, List.nil_append, List.cons_append, Nat.reduceAdd, Nat.reduceLeDiff, Nat.zero_le, Nat.le_refl, and_self, and_true, true_and, not_true_eq_false, not_false_eq_true, reduceIte, hm, p64, t64, n64, p65, t65, n65, p66, t66, n66, p67, t67, n67, p68, t68, n68, p69, t69, n69, p70, t70, n70, p71, t71, n71, p72, t72, n72, p73, t73, n73, p74, t74, n74, p75, t75, n75, p76, t76, n76, p77, t77, n77, p78, t78, n78, ovl_7, ups_ovl_7, ovl_64, ups_ovl_64, ovl_65, ups_ovl_65, ovl_66, ups_ovl_66, ovl_67, ups_ovl_67, ovl_68, ups_ovl_68, ovl_69, ups_ovl_69, ovl_70, ups_ovl_70, ovl_71, ups_ovl_71, ovl_72, ups_ovl_72, ovl_73, ups_ovl_73, ovl_74, ups_ovl_74, ovl_75, ups_ovl_75, ovl_76, ups_ovl_76, ovl_78, ups_ovl_78, ovJ_77, ups_ovJ_77, h20.1, h1]
    rw [e]
  | succ n ih =>
    intro s hs
    have h1 : ¬ nI (nsA A) < nI (s + 1) := nI_nlt (by omega) (by omega)
    have hjj : jin (nI (s + 1)) 21 = true := jin_nI (by omega) (by omega)
    have hcj : (nI (s + 1)).toNatClampNeg = s + 1 := nI_clamp (by omega)
    have hss := nIs (s + 1)
    refine Iff.trans ?_ (ih (s + 1) (by omega))
    refine s_X5_foot_134.trans ?_
    by_cases c : A 76 (s + 1) = nI lv
    · have e : rsT A lv T (s + 1) = upT (rsT A lv T s) (s + 1) 0 := by
        show upT _ _ (if A 76 (s + 1) = nI lv then _ else _) = _
        rw [if_pos c]
      simp only [s_X5_foot_135, s_X5_foot_136, s_X5_foot_139, s_X5_foot_142, s_X5_foot_143, s_X5_foot_146, s_X5_foot_147, s_X5_foot_148, s_X5_foot_151, s_X5_foot_152, s_X5_foot_153, s_X5_foot_154, s_X5_foot_157, s_X5_foot_158, s_X5_foot_161, s_X5_foot_162, s_X5_foot_165, s_X5_foot_166, s_X5_foot_167, s_X5_foot_168, s_X5_foot_171, tl_some, tl_none, cv_int, cv_ref, cv_null, cv_long, cat_rf, jcv_nil, jcat_cons, jv_none, jv_int, jv_ref, jv_null, jw_rf, rf_some, rf_none, bz_0, bz_1, i1_0, i0_0, if_true, if_false, ite_self, List.nil_append, List.cons_append, Nat.reduceAdd, Nat.reduceLeDiff, Nat.zero_le, Nat.le_refl, and_self, and_true, true_and, not_true_eq_false, not_false_eq_true, reduceIte, hm, p64, t64, n64, p65, t65, n65, p66, t66, n66, p67, t67, n67, p68, t68, n68, p69, t69, n69, p70, t70, n70, p71, t71, n71, p72, t72, n72, p73, t73, n73, p74, t74, n74, p75, t75, n75, p76, t76, n76, p77, t77, n77, p78, t78, n78, ovl_7, ups_ovl_7, ovl_64, ups_ovl_64, ovl_65, ups_ovl_65, ovl_66, ups_ovl_66, ovl_67, ups_ovl_67, ovl_68, ups_ovl_68, ovl_69, ups_ovl_69, ovl_70, ups_ovl_70, ovl_71, ups_ovl_71, ovl_72, ups_ovl_72, ovl_73, ups_ovl_73, ovl_74, ups_ovl_74, ovl_75, ups_ovl_75, ovl_76, ups_ovl_76, ovl_78, ups_ovl_78, ovJ_77, ups_ovJ_77, h20.1, h1, hjj, hcj, hss, c, e]
    · have e : rsT A lv T (s + 1) = upT (rsT A lv T s) (s + 1) (rsT A lv T s (s + 1)) := by
        show upT _ _ (if A 76 (s + 1) = nI lv then _ else _) = _
        rw [if_neg c]
      simp only [s_X5_foot_135, s_X5_foot_136, s_X5_foot_139, s_X5_foot_142, s_X5_foot_143, s_X5_foot_146, s_X5_foot_147, s_X5_foot_148, s_X5_foot_151, s_X5_foot_152, s_X5_foot_153, s_X5_foot_154, s_X5_foot_157, s_X5_foot_158, s_X5_foot_161, s_X5_foot_162, s_X5_foot_165, s_X5_foot_166, s_X5_foot_167, s_X5_foot_168, s_X5_foot_171, tl_some, tl_none, cv_int, cv_ref, cv_null, cv_long, cat_rf, jcv_nil, jcat_cons, jv_none, jv_int, jv_ref, jv_null, jw_rf, rf_some, rf_none, bz_0, bz_1, i1_0, i0_0, if_true, if_false, ite_self, List.nil_append, List.cons_append, Nat.reduceAdd, Nat.reduceLeDiff, Nat.zero_le, Nat.le_refl, and_self, and_true, true_and, not_true_eq_false, not_false_eq_true, reduceIte, hm, p64, t64, n64, p65, t65, n65, p66, t66, n66, p67, t67, n67, p68, t68, n68, p69, t69, n69, p70, t70, n70, p71, t71, n71, p72, t72, n72, p73, t73, n73, p74, t74, n74, p75, t75, n75, p76, t76, n76, p77, t77, n77, p78, t78, n78, ovl_7, ups_ovl_7, ovl_64, ups_ovl_64, ovl_65, ups_ovl_65, ovl_66, ups_ovl_66, ovl_67, ups_ovl_67, ovl_68, ups_ovl_68, ovl_69, ups_ovl_69, ovl_70, ups_ovl_70, ovl_71, ups_ovl_71, ovl_72, ups_ovl_72, ovl_73, ups_ovl_73, ovl_74, ups_ovl_74, ovl_75, ups_ovl_75, ovl_76, ups_ovl_76, ovl_78, ups_ovl_78, ovJ_77, ups_ovJ_77, h20.1, h1, hjj, hcj, hss, c, e]
theorem m_foot_132 (hL : MLay g P m) (hw : WfA A) {lv : Nat} {l2 : Int32} {l3 l4 l5 : Option Value} : Ev sv d (79, 132, [some (.ref m), some (.int (nI lv)), some (.int l2), l3, l4, l5], []) (tv t u g (ovl I m A) (ovJ J m T) P) Q ↔ Q none (tv t u g (ovl I m A) (ovJ J m (rsT A lv T (nsA A))) P) := by
  simp only [s_X5_foot_132, s_X5_foot_133, tl_some, tl_none, cv_int, cv_ref, cv_null, cv_long, cat_rf, jcv_nil, jcat_cons, jv_none, jv_int, jv_ref, jv_null, jw_rf, rf_some, rf_none, bz_0, bz_1, i1_0, i0_0, if_true, if_false, ite_self, List.nil_append, List.cons_append, Nat.reduceAdd, Nat.reduceLeDiff, Nat.zero_le, Nat.le_refl, and_self, and_true, true_and, not_true_eq_false, not_false_eq_true, reduceIte]
  exact m_foot_reset (T := T) hL hw (nsA A) 0 (by omega)
theorem m_foot_outer (hL : MLay g P m) (hw : WfA A) {gi lv : Nat} {l3 : Int32} : ∀ n k, k + n = nsA A → ∀ l5 : Option Value,
    (Ev sv d (79, 53, [some (.ref m), some (.int (nI lv)), some (.int (nI gi)), some (.int l3), some (.int (nI (k + 1))), l5], []) (tv t u g (ovl I m A) (ovJ J m (rO A gi (nsA A) T k)) P) Q ↔ Q none (tv t u g (ovl I m A) (ovJ J m (rsT A lv (rO A gi (nsA A) T (nsA A)) (nsA A))) P)) := by
  have hL0 := hL
  obtain ⟨hm, p64, t64, n64, p65, t65, n65, p66, t66, n66, p67, t67, n67, p68, t68, n68, p69, t69, n69, p70, t70, n70, p71, t71, n71, p72, t72, n72, p73, t73, n73, p74, t74, n74, p75, t75, n75, p76, t76, n76, p77, t77, n77, p78, t78, n78⟩ := hL
  have h20 := hw.2.1
  intro n
  induction n with
  | zero =>
    intro k hk l5
    have e : k = nsA A := by omega
    have h1 : nI (nsA A) < nI (k + 1) := nI_lt (by omega) (by omega)
    refine s_X5_foot_53.trans ?_
    simp only [s_X5_foot_55, s_X5_foot_56, s_X5_foot_59, tl_some, tl_none, cv_int, cv_ref, cv_null, cv_long, cat_rf, jcv_nil, jcat_cons, jv_none, jv_int, jv_ref, jv_null, jw_rf, rf_some, rf_none, bz_0, bz_1, i1_0, i0_0, if_true, if_false, ite_self, List.nil_append, List.cons_append, Nat.reduceAdd, Nat.reduceLeDiff, Nat.zero_le, Nat.le_refl, and_self, and_true, true_and, not_true_eq_false, not_false_eq_true, reduceIte, hm, p64, t64, n64, p65, t65, n65, p66, t66, n66, p67, t67, n67, p68, t68, n68, p69, t69, n69, p70, t70, n70, p71, t71, n71, p72, t72, n72, p73, t73, n73, p74, t74, n74, p75, t75, n75, p76, t76, n76, p77, t77, n77, p78, t78, n78, ovl_7, ups_ovl_7, ovl_64, ups_ovl_64, ovl_65, ups_ovl_65, ovl_66, ups_ovl_66, ovl_67, ups_ovl_67, ovl_68, ups_ovl_68, ovl_69, ups_ovl_69, ovl_70, ups_ovl_70, ovl_71, ups_ovl_71, ovl_72, ups_ovl_72, ovl_73, ups_ovl_73, ovl_74, ups_ovl_74, ovl_75, ups_ovl_75, ovl_76, ups_ovl_76, ovl_78, ups_ovl_78, ovJ_77, ups_ovJ_77, h20.1, h1, m_foot_132 hL0 hw]
    rw [e]
  | succ n ih =>
    intro k hk l5
    have h1 : ¬ nI (nsA A) < nI (k + 1) := nI_nlt (by omega) (by omega)
    have hs := nIs (k + 1)
    have hjk : jin (nI (k + 1)) 21 = true := jin_nI (by omega) (by omega)
    have hck : (nI (k + 1)).toNatClampNeg = k + 1 := nI_clamp (by omega)
    refine s_X5_foot_53.trans ?_
    simp only [s_X5_foot_55, s_X5_foot_56, s_X5_foot_59, s_X5_foot_62, s_X5_foot_63, tl_some, tl_none, cv_int, cv_ref, cv_null, cv_long, cat_rf, jcv_nil, jcat_cons, jv_none, jv_int, jv_ref, jv_null, jw_rf, rf_some, rf_none, bz_0, bz_1, i1_0, i0_0, if_true, if_false, ite_self, List.nil_append, List.cons_append, Nat.reduceAdd, Nat.reduceLeDiff, Nat.zero_le, Nat.le_refl, and_self, and_true, true_and, not_true_eq_false, not_false_eq_true, reduceIte, hm, p64, t64, n64, p65, t65, n65, p66, t66, n66, p67, t67, n67, p68, t68, n68, p69, t69, n69, p70, t70, n70, p71, t71, n71, p72, t72, n72, p73, t73, n73, p74, t74, n74, p75, t75, n75, p76, t76, n76, p77, t77, n77, p78, t78, n78, ovl_7, ups_ovl_7, ovl_64, ups_ovl_64, ovl_65, ups_ovl_65, ovl_66, ups_ovl_66, ovl_67, ups_ovl_67, ovl_68, ups_ovl_68, ovl_69, ups_ovl_69, ovl_70, ups_ovl_70, ovl_71, ups_ovl_71, ovl_72, ups_ovl_72, ovl_73, ups_ovl_73, ovl_74, ups_ovl_74, ovl_75, ups_ovl_75, ovl_76, ups_ovl_76, ovl_78, ups_ovl_78, ovJ_77, ups_ovJ_77, h20.1, h1]
    by_cases c : A 74 (k + 1) = nI gi
    · have e : rO A gi (nsA A) T (k + 1) = rI A (k + 1) (rO A gi (nsA A) T k) (nsA A) := if_pos c
      refine (m_foot_inner (T := rO A gi (nsA A) T k) hL0 hw (by omega) (by omega) c (nsA A) 0 (by omega)).trans ?_
      simp only [s_X5_foot_126, s_X5_foot_129, tl_some, tl_none, cv_int, cv_ref, cv_null, cv_long, cat_rf, jcv_nil, jcat_cons, jv_none, jv_int, jv_ref, jv_null, jw_rf, rf_some, rf_none, bz_0, bz_1, i1_0, i0_0, if_true, if_false, ite_self, List.nil_append, List.cons_append, Nat.reduceAdd, Nat.reduceLeDiff, Nat.zero_le, Nat.le_refl, and_self, and_true, true_and, not_true_eq_false, not_false_eq_true, reduceIte, hs]
      rw [← e]
      exact ih (k + 1) (by omega) _
    · have e : rO A gi (nsA A) T (k + 1) = rO A gi (nsA A) T k := if_neg c
      have h2 : ¬ nI (nsA A) < 1 := nI_nlt (a := nsA A) (b := 1) (by omega) (by omega)
      refine s_X5_foot_65.trans ?_
      simp only [s_X5_foot_67, s_X5_foot_68, s_X5_foot_71, s_X5_foot_74, s_X5_foot_75, s_X5_foot_78, s_X5_foot_80, s_X5_foot_81, s_X5_foot_82, s_X5_foot_126, s_X5_foot_129, tl_some, tl_none, cv_int, cv_ref, cv_null, cv_long, cat_rf, jcv_nil, jcat_cons, jv_none, jv_int, jv_ref, jv_null, jw_rf, rf_some, rf_none, bz_0, bz_1, i1_0, i0_0, if_true, if_false, ite_self, List.nil_append, List.cons_append, Nat.reduceAdd, Nat.reduceLeDiff, Nat.zero_le, Nat.le_refl, and_self, and_true, true_and, not_true_eq_false, not_false_eq_true, reduceIte, hm, p64, t64, n64, p65, t65, n65, p66, t66, n66, p67, t67, n67, p68, t68, n68, p69, t69, n69, p70, t70, n70, p71, t71, n71, p72, t72, n72, p73, t73, n73, p74, t74, n74, p75, t75, n75, p76, t76, n76, p77, t77, n77, p78, t78, n78, ovl_7, ups_ovl_7, ovl_64, ups_ovl_64, ovl_65, ups_ovl_65, ovl_66, ups_ovl_66, ovl_67, ups_ovl_67, ovl_68, ups_ovl_68, ovl_69, ups_ovl_69, ovl_70, ups_ovl_70, ovl_71, ups_ovl_71, ovl_72, ups_ovl_72, ovl_73, ups_ovl_73, ovl_74, ups_ovl_74, ovl_75, ups_ovl_75, ovl_76, ups_ovl_76, ovl_78, ups_ovl_78, ovJ_77, ups_ovJ_77, h20.1, h2, hjk, hck, c, hs]
      rw [← e]
      exact ih (k + 1) (by omega) _
theorem m_foot (hL : MLay g P m) (hw : WfA A) (hl : LnA A) {lv : Nat} (hlv : lv ≤ 5) (hb : ln A + 30 ≤ 100000) : Ev sv (d + 5) (79, 0, [some (.ref m), some (.int (nI lv)), none, none, none, none], []) (tv t u g (ovl I m A) (ovJ J m T) P) Q ↔ Q none (tv t u g (ovl I m (footA A T lv)) (ovJ J m (footT A T lv)) P) := by
  have hL0 := hL
  obtain ⟨hm, p64, t64, n64, p65, t65, n65, p66, t66, n66, p67, t67, n67, p68, t68, n68, p69, t69, n69, p70, t70, n70, p71, t71, n71, p72, t72, n72, p73, t73, n73, p74, t74, n74, p75, t75, n75, p76, t76, n76, p77, t77, n77, p78, t78, n78⟩ := hL
  have h20 := hw.1.2
  have hgl := gF_le A 4 (nI lv)
  have hj : jin (nI lv) 6 = true := jin_nI (by omega) (by omega)
  have hc : (nI lv).toNatClampNeg = lv := nI_clamp (by omega)
  by_cases h0 : gF A 4 (nI lv) = 0
  · have e1 : footA A T lv = A := by unfold footA; rw [h0]; rfl
    have e2 : footT A T lv = rsT A lv T (nsA A) := by unfold footT rollT; rw [if_pos h0]
    rw [e1, e2]
    simp only [s_X5_foot_0, s_X5_foot_1, s_X5_foot_2, s_X5_foot_3, s_X5_foot_6, s_X5_foot_7, s_X5_foot_8, tl_some, tl_none, cv_int, cv_ref, cv_null, cv_long, cat_rf, jcv_nil, jcat_cons, jv_none, jv_int, jv_ref, jv_null, jw_rf, rf_some, rf_none, bz_0, bz_1, i1_0, i0_0, if_true, if_false, ite_self, List.nil_append, List.cons_append, Nat.reduceAdd, Nat.reduceLeDiff, Nat.zero_le, Nat.le_refl, and_self, and_true, true_and, not_true_eq_false, not_false_eq_true, reduceIte, hm, p64, t64, n64, p65, t65, n65, p66, t66, n66, p67, t67, n67, p68, t68, n68, p69, t69, n69, p70, t70, n70, p71, t71, n71, p72, t72, n72, p73, t73, n73, p74, t74, n74, p75, t75, n75, p76, t76, n76, p77, t77, n77, p78, t78, n78, ovl_7, ups_ovl_7, ovl_64, ups_ovl_64, ovl_65, ups_ovl_65, ovl_66, ups_ovl_66, ovl_67, ups_ovl_67, ovl_68, ups_ovl_68, ovl_69, ups_ovl_69, ovl_70, ups_ovl_70, ovl_71, ups_ovl_71, ovl_72, ups_ovl_72, ovl_73, ups_ovl_73, ovl_74, ups_ovl_74, ovl_75, ups_ovl_75, ovl_76, ups_ovl_76, ovl_78, ups_ovl_78, ovJ_77, ups_ovJ_77, m_findN hL0 hw, h0, nI_0e]
    exact m_foot_132 hL0 hw
  · have h1 := nIz h0 (by omega)
    have hfl := fsA_le A (gF A 4 (nI lv))
    have hs20 := hw.2.1.2
    have hjs : jin (nI (fsA A (gF A 4 (nI lv)))) 21 = true := jin_nI (by omega) (by omega)
    have hcs : (nI (fsA A (gF A 4 (nI lv)))).toNatClampNeg = fsA A (gF A 4 (nI lv)) := nI_clamp (by omega)
    have hib := fun (Q : Option Value → jM → Prop) (v : Int32) => m_inBody (Q := Q) (v := v) (sv := sv) (d := d) (t := t) (u := u) (I := I) (J := ovJ J m T) hL0 hw hl hgl hb
    have hfr := (footA_fr A T lv).fs
    have e2 : footT A T lv = rsT (footA A T lv) lv (rO (footA A T lv) (gF A 4 (nI lv)) (nsA (footA A T lv)) T (nsA (footA A T lv))) (nsA (footA A T lv)) := by
      unfold footT rollT
      rw [if_neg h0, rO_fs hfr, rsT_fs hfr, hfr.ns]
    rw [e2]
    have hout := m_foot_outer (sv := sv) (d := d + 5) (t := t) (u := u) (g := g) (I := I) (J := J) (P := P) (Q := Q) (T := T) (A := footA A T lv) (gi := gF A 4 (nI lv)) (lv := lv) (l3 := nI (fsA A (gF A 4 (nI lv)))) hL0 (hfr.wf hw) (nsA (footA A T lv)) 0 (by omega) none
    rw [← hout]
    unfold footA footV
    by_cases h2 : fsA A (gF A 4 (nI lv)) = 0
    · by_cases h3 : lv = 0
      · subst h3
        simp only [nI_0e] at h1 h2 hib hgl
        simp only [s_X5_foot_0, s_X5_foot_1, s_X5_foot_2, s_X5_foot_3, s_X5_foot_6, s_X5_foot_7, s_X5_foot_8, s_X5_foot_11, s_X5_foot_12, s_X5_foot_13, s_X5_foot_16, s_X5_foot_17, s_X5_foot_18, s_X5_foot_19, s_X5_foot_20, s_X5_foot_33, s_X5_foot_34, s_X5_foot_37, s_X5_foot_38, s_X5_foot_47, s_X5_foot_50, s_X5_foot_51, tl_some, tl_none, cv_int, cv_ref, cv_null, cv_long, cat_rf, jcv_nil, jcat_cons, jv_none, jv_int, jv_ref, jv_null, jw_rf, rf_some, rf_none, bz_0, bz_1, i1_0, i0_0, if_true, if_false, ite_self, List.nil_append, List.cons_append, Nat.reduceAdd, Nat.reduceLeDiff, Nat.zero_le, Nat.le_refl, and_self, and_true, true_and, not_true_eq_false, not_false_eq_true, reduceIte, hm, p64, t64, n64, p65, t65, n65, p66, t66, n66, p67, t67, n67, p68, t68, n68, p69, t69, n69, p70, t70, n70, p71, t71, n71, p72, t72, n72, p73, t73, n73, p74, t74, n74, p75, t75, n75, p76, t76, n76, p77, t77, n77, p78, t78, n78, ovl_7, ups_ovl_7, ovl_64, ups_ovl_64, ovl_65, ups_ovl_65, ovl_66, ups_ovl_66, ovl_67, ups_ovl_67, ovl_68, ups_ovl_68, ovl_69, ups_ovl_69, ovl_70, ups_ovl_70, ovl_71, ups_ovl_71, ovl_72, ups_ovl_72, ovl_73, ups_ovl_73, ovl_74, ups_ovl_74, ovl_75, ups_ovl_75, ovl_76, ups_ovl_76, ovl_78, ups_ovl_78, ovJ_77, ups_ovJ_77, m_findN hL0 hw, m_firstSum hL0 hw, h1, h2, nI_0e, hib]
        rfl
      · have h4 := nIz h3 (by omega)
        simp only [s_X5_foot_0, s_X5_foot_1, s_X5_foot_2, s_X5_foot_3, s_X5_foot_6, s_X5_foot_7, s_X5_foot_8, s_X5_foot_11, s_X5_foot_12, s_X5_foot_13, s_X5_foot_16, s_X5_foot_17, s_X5_foot_18, s_X5_foot_19, s_X5_foot_20, s_X5_foot_33, s_X5_foot_34, s_X5_foot_41, s_X5_foot_42, s_X5_foot_45, s_X5_foot_46, s_X5_foot_47, s_X5_foot_50, s_X5_foot_51, tl_some, tl_none, cv_int, cv_ref, cv_null, cv_long, cat_rf, jcv_nil, jcat_cons, jv_none, jv_int, jv_ref, jv_null, jw_rf, rf_some, rf_none, bz_0, bz_1, i1_0, i0_0, if_true, if_false, ite_self, List.nil_append, List.cons_append, Nat.reduceAdd, Nat.reduceLeDiff, Nat.zero_le, Nat.le_refl, and_self, and_true, true_and, not_true_eq_false, not_false_eq_true, reduceIte, hm, p64, t64, n64, p65, t65, n65, p66, t66, n66, p67, t67, n67, p68, t68, n68, p69, t69, n69, p70, t70, n70, p71, t71, n71, p72, t72, n72, p73, t73, n73, p74, t74, n74, p75, t75, n75, p76, t76, n76, p77, t77, n77, p78, t78, n78, ovl_7, ups_ovl_7, ovl_64, ups_ovl_64, ovl_65, ups_ovl_65, ovl_66, ups_ovl_66, ovl_67, ups_ovl_67, ovl_68, ups_ovl_68, ovl_69, ups_ovl_69, ovl_70, ups_ovl_70, ovl_71, ups_ovl_71, ovl_72, ups_ovl_72, ovl_73, ups_ovl_73, ovl_74, ups_ovl_74, ovl_75, ups_ovl_75, ovl_76, ups_ovl_76, ovl_78, ups_ovl_78, ovJ_77, ups_ovJ_77, m_findN hL0 hw, m_firstSum hL0 hw, h1, h2, h3, h4, hj, hc, nI_0e, hib]
        rfl
    · have h4 := nIz h2 (by omega)
      simp only [s_X5_foot_0, s_X5_foot_1, s_X5_foot_2, s_X5_foot_3, s_X5_foot_6, s_X5_foot_7, s_X5_foot_8, s_X5_foot_11, s_X5_foot_12, s_X5_foot_13, s_X5_foot_16, s_X5_foot_17, s_X5_foot_18, s_X5_foot_19, s_X5_foot_20, s_X5_foot_23, s_X5_foot_24, s_X5_foot_27, s_X5_foot_28, s_X5_foot_29, s_X5_foot_30, s_X5_foot_47, s_X5_foot_50, s_X5_foot_51, tl_some, tl_none, cv_int, cv_ref, cv_null, cv_long, cat_rf, jcv_nil, jcat_cons, jv_none, jv_int, jv_ref, jv_null, jw_rf, rf_some, rf_none, bz_0, bz_1, i1_0, i0_0, if_true, if_false, ite_self, List.nil_append, List.cons_append, Nat.reduceAdd, Nat.reduceLeDiff, Nat.zero_le, Nat.le_refl, and_self, and_true, true_and, not_true_eq_false, not_false_eq_true, reduceIte, hm, p64, t64, n64, p65, t65, n65, p66, t66, n66, p67, t67, n67, p68, t68, n68, p69, t69, n69, p70, t70, n70, p71, t71, n71, p72, t72, n72, p73, t73, n73, p74, t74, n74, p75, t75, n75, p76, t76, n76, p77, t77, n77, p78, t78, n78, ovl_7, ups_ovl_7, ovl_64, ups_ovl_64, ovl_65, ups_ovl_65, ovl_66, ups_ovl_66, ovl_67, ups_ovl_67, ovl_68, ups_ovl_68, ovl_69, ups_ovl_69, ovl_70, ups_ovl_70, ovl_71, ups_ovl_71, ovl_72, ups_ovl_72, ovl_73, ups_ovl_73, ovl_74, ups_ovl_74, ovl_75, ups_ovl_75, ovl_76, ups_ovl_76, ovl_78, ups_ovl_78, ovJ_77, ups_ovJ_77, m_findN hL0 hw, m_firstSum hL0 hw, h1, h2, h4, hjs, hcs, hib]
      rfl
end
