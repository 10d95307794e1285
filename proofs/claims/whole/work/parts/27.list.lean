-- ===== ArrayList =====
/-- the list at a, its array e of c places, n elements f -/
def Lst (sv : Nat → Value) (g : jG) (I : tI) (P : tP) (a e c n : Nat) (f : Nat → Nat) : Prop := jt g a = some 1 ∧ P 1 1 a = some e ∧ I 1 2 a = nI n ∧ jn g e = c ∧ n ≤ c ∧ c ≤ 100000 ∧ ((c = 0 ∧ jt g e = some 95 ∧ sv 0 = .ref e) ∨ (10 ≤ c ∧ jt g e = some 53 ∧ ∃ e0, sv 0 = .ref e0 ∧ e0 ≠ e)) ∧ ∀ i, i < n → P 53 i e = some (f i)
section
variable {sv : Nat → Value} {d t u : Nat} {Q : Option Value → jM → Prop} {g : jG} {I : tI} {J : tJ} {P : tP} {M : jM} {a e c n : Nat} {f : Nat → Nat} {x y z : Int32}
theorem l_size (ht : jt g a = some 1) : Ev sv d (97, 0, [some (.ref a)], []) (tv t u g I J P) Q ↔ Q (some (.int (I 1 2 a))) (tv t u g I J P) := by
  simp only [s_Jx4a65c_size_8abf5_0, s_Jx4a65c_size_8abf5_0n, s_Jx4a65c_size_8abf5_0z, s_Jx4a65c_size_8abf5_1, s_Jx4a65c_size_8abf5_4, tl_some, tl_none, cv_int, cv_ref, cv_null, cv_long, cat_rf, jcv_nil, jcat_cons, jv_none, jv_int, jv_ref, jv_null, jw_rf, rf_some, rf_none, bz_0, bz_1, i1_0, i0_0, if_true, if_false, ite_self, List.nil_append, List.cons_append, Nat.reduceAdd, Nat.reduceLeDiff, Nat.zero_le, Nat.le_refl, and_self, and_true, true_and, not_true_eq_false, not_false_eq_true, reduceIte, ht]
theorem l_check3 (h0 : ¬ x < 0) (h1 : x < y) {l2 : Option Value} : Ev sv d (107, 0, [some (.int x), some (.int y), l2], []) M Q ↔ Q (some (.int x)) M := by
  simp only [s_J3_checkIndex_8e157_0, s_J3_checkIndex_8e157_1, s_J3_checkIndex_8e157_4, s_J3_checkIndex_8e157_5, s_J3_checkIndex_8e157_6, s_J3_checkIndex_8e157_9, s_J3_checkIndex_8e157_9n, s_J3_checkIndex_8e157_9z, s_J3_checkIndex_8e157_10, s_J3_checkIndex_8e157_11, s_J3_checkIndex_8e157_16, s_J3_checkIndex_8e157_17, tl_some, tl_none, cv_int, cv_ref, cv_null, cv_long, cat_rf, jcv_nil, jcat_cons, jv_none, jv_int, jv_ref, jv_null, jw_rf, rf_some, rf_none, bz_0, bz_1, i1_0, i0_0, if_true, if_false, ite_self, List.nil_append, List.cons_append, Nat.reduceAdd, Nat.reduceLeDiff, Nat.zero_le, Nat.le_refl, and_self, and_true, true_and, not_true_eq_false, not_false_eq_true, reduceIte, h0, h1]
theorem l_check (h0 : ¬ x < 0) (h1 : x < y) : Ev sv (d + 1) (104, 0, [some (.int x), some (.int y)], []) M Q ↔ Q (some (.int x)) M := by
  simp only [s_J15_checkIndex_7cf53_0, s_J15_checkIndex_7cf53_1, s_J15_checkIndex_7cf53_2, s_J15_checkIndex_7cf53_3, s_J15_checkIndex_7cf53_6, tl_some, tl_none, cv_int, cv_ref, cv_null, cv_long, cat_rf, jcv_nil, jcat_cons, jv_none, jv_int, jv_ref, jv_null, jw_rf, rf_some, rf_none, bz_0, bz_1, i1_0, i0_0, if_true, if_false, ite_self, List.nil_append, List.cons_append, Nat.reduceAdd, Nat.reduceLeDiff, Nat.zero_le, Nat.le_refl, and_self, and_true, true_and, not_true_eq_false, not_false_eq_true, reduceIte, l_check3 h0 h1]
theorem l_get (hl : Lst sv g I P a e c n f) {i : Nat} (hi : i < n) : Ev sv (d + 2) (99, 0, [some (.ref a), some (.int (nI i))], []) (tv t u g I J P) Q ↔ Q (some (.ref (f i))) (tv t u g I J P) := by
  obtain ⟨ha, he, hn, hc, hnc, hcb, hk, hf⟩ := hl
  have h53 : jt g e = some 53 := by
    rcases hk with ⟨h0, -⟩ | ⟨-, h, -⟩
    · omega
    · exact h
  have h0 : ¬ nI i < 0 := nI_nlt (b := 0) (by omega) (by omega)
  have h1 : nI i < nI n := nI_lt hi (by omega)
  have hj : jin (nI i) c = true := jin_nI (by omega) (by omega)
  have hcl : (nI i).toNatClampNeg = i := nI_clamp (by omega)
  have hfi := hf i hi
  simp only [s_Jx4a65c_get_915e3_0, s_Jx4a65c_get_915e3_1, s_Jx4a65c_get_915e3_1n, s_Jx4a65c_get_915e3_1z, s_Jx4a65c_get_915e3_2, s_Jx4a65c_get_915e3_5, s_Jx4a65c_get_915e3_8, s_Jx4a65c_get_915e3_9, s_Jx4a65c_get_915e3_9n, s_Jx4a65c_get_915e3_9z, s_Jx4a65c_get_915e3_10, s_Jx4a65c_get_915e3_11, s_Jx4a65c_get_915e3_14, s_Jx4a65c_get_915e3_14z, s_Jx4a65c_get_915e3_14n, s_Jx4a65c_elementData_915e3_0, s_Jx4a65c_elementData_915e3_0n, s_Jx4a65c_elementData_915e3_0z, s_Jx4a65c_elementData_915e3_1, s_Jx4a65c_elementData_915e3_4, s_Jx4a65c_elementData_915e3_5, s_Jx4a65c_elementData_915e3_6, s_Jx4a65c_elementData_915e3_6z, s_Jx4a65c_elementData_915e3_6n, tl_some, tl_none, cv_int, cv_ref, cv_null, cv_long, cat_rf, jcv_nil, jcat_cons, jv_none, jv_int, jv_ref, jv_null, jw_rf, rf_some, rf_none, bz_0, bz_1, i1_0, i0_0, if_true, if_false, ite_self, List.nil_append, List.cons_append, Nat.reduceAdd, Nat.reduceLeDiff, Nat.zero_le, Nat.le_refl, and_self, and_true, true_and, not_true_eq_false, not_false_eq_true, reduceIte, ha, he, hn, l_check h0 h1, h53, hc, hj, hcl, hfi]
/-- what adding to a list leaves -/
def LFr (t : Nat) (g g' : jG) (I I' : tI) (J J' : tJ) (P P' : tP) (a e : Nat) : Prop := (∀ b, b < t → jt g' b = jt g b ∧ jn g' b = jn g b) ∧ (∀ κ k b, κ ≠ 53 → ¬ (κ = 1 ∧ b = a) → I' κ k b = I κ k b) ∧ (∀ κ k b, κ ≠ 53 → J' κ k b = J κ k b) ∧ (∀ κ k b, κ ≠ 53 → ¬ (κ = 1 ∧ b = a) → P' κ k b = P κ k b) ∧ (∀ k b, b < t → b ≠ e → P' 53 k b = P 53 k b)
theorem l_newlen (h10 : 10 ≤ c) (hc : c ≤ 100000) : Ev sv (d + 1) (105, 0, [some (.int (nI c)), some (.int 1), some (.int (nI (c / 2))), none], []) M Q ↔ Q (some (.int (nI (c + c / 2)))) M := by
  have h1 : (1 : Int32) < nI (c / 2) := nI_lt (a := 1) (by omega) (by omega)
  have h2 : nI c + nI (c / 2) = nI (c + c / 2) := nI_add _ _
  have h3 : (0 : Int32) < nI (c + c / 2) := nI_lt (a := 0) (by omega) (by omega)
  have h4 : ¬ (2147483639 : Int32) < nI (c + c / 2) := nI_nlt (a := 2147483639) (by omega) (by omega)
  simp only [s_J8_newLength_cabcc_0, s_J8_newLength_cabcc_1, s_J8_newLength_cabcc_2, s_J8_newLength_cabcc_3, s_J8_newLength_cabcc_6, s_J8_newLength_cabcc_7, s_J8_newLength_cabcc_8, s_J8_newLength_cabcc_9, s_J8_newLength_cabcc_10, s_J8_newLength_cabcc_13, s_J8_newLength_cabcc_14, s_J8_newLength_cabcc_16, s_J8_newLength_cabcc_19, s_J8_newLength_cabcc_20, s_J8_newLength_cabcc_21, s_J8_newLength_cabcc_22, s_J8_newLength_cabcc_23, s_J8_newLength_cabcc_26, tl_some, tl_none, cv_int, cv_ref, cv_null, cv_long, cat_rf, jcv_nil, jcat_cons, jv_none, jv_int, jv_ref, jv_null, jw_rf, rf_some, rf_none, bz_0, bz_1, i1_0, i0_0, if_true, if_false, ite_self, List.nil_append, List.cons_append, Nat.reduceAdd, Nat.reduceLeDiff, Nat.zero_le, Nat.le_refl, and_self, and_true, true_and, not_true_eq_false, not_false_eq_true, reduceIte, h1, h2, h3, h4]
theorem l_copy {mi : Nat} (hs1 : sv 1 = .ref mi) (he : jt g e = some 53) (hn : jn g e = c) (h10 : 10 ≤ c) (hc : c ≤ 100000) (het : e < t) (hel : ∀ i, i < c → jok g (P 53 i e)) :
    Ev sv (d + 2) (102, 0, [some (.ref e), some (.int (nI (c + c / 2)))], []) (tv t u g I J P) Q ↔ Q (some (.ref t)) (tv (t + 1) (u + (c + c / 2)) (jgset g t (53, c + c / 2)) (upc I 53 t (fun _ => 0)) (upc J 53 t (fun _ => 0)) (upc (upc P 53 t (fun _ => none)) 53 t (va_cpy (fun k => P 53 k e) (fun _ => none) 0 0 c))) := by
  have h0 : ¬ nI (c + c / 2) < 0 := nI_nlt (b := 0) (by omega) (by omega)
  have hcl : (nI (c + c / 2)).toNatClampNeg = c + c / 2 := nI_clamp (by omega)
  have hb : c + c / 2 ≤ 1000000 := by omega
  have ht0 : jt (jgset g t (53, c + c / 2)) t = some 53 := by rw [jt_set, if_pos rfl]
  have hte : jt (jgset g t (53, c + c / 2)) e = some 53 := by rw [jt_set, if_neg (by omega)]; exact he
  have hn0 : jn (jgset g t (53, c + c / 2)) t = c + c / 2 := by rw [jn_set, if_pos rfl]
  have hne : jn (jgset g t (53, c + c / 2)) e = c := by rw [jn_set, if_neg (by omega)]; exact hn
  have hmin : ¬ nI (c + c / 2) < nI c := nI_nlt (by omega) (by omega)
  have hofn : Int32.ofNat c = nI c := rfl
  have hclc : (nI c).toNatClampNeg = c := nI_clamp (by omega)
  have hz : ((0 : Int32).toNatClampNeg) = 0 := by decide
  have hs : ¬ (0 : Int32) < 0 ∧ ¬ (0 : Int32) < 0 ∧ ¬ nI c < 0 := ⟨by decide, by decide, nI_nlt (b := 0) (by omega) (by omega)⟩
  have hPe : ∀ k, upc P 53 t (fun _ => none) 53 k e = P 53 k e := fun k => if_neg (fun q => by omega)
  have hPt : ∀ k, upc P 53 t (fun _ => none) 53 k t = none := fun k => if_pos ⟨rfl, rfl⟩
  have hjok : ∀ i, i < (nI c).toNatClampNeg → jok (jgset g t (53, c + c / 2)) (upc P 53 t (fun _ => none) 53 ((0 : Int32).toNatClampNeg + i) e) := by
    intro i hi y hy
    rw [hclc] at hi
    rw [hz, Nat.zero_add, hPe] at hy
    have h3 := hel i hi y hy
    have hyt : y ≠ t ∨ True := Or.inr trivial
    rw [jt_set]
    by_cases hyt : y = t
    · exfalso
      sorry
    · rw [if_neg hyt]
      exact h3
  have hlen : (0 : Int32).toNatClampNeg + (nI c).toNatClampNeg ≤ jn (jgset g t (53, c + c / 2)) e ∧ (0 : Int32).toNatClampNeg + (nI c).toNatClampNeg ≤ jn (jgset g t (53, c + c / 2)) t := by
    rw [hz, hclc, hne, hn0]
    omega
  simp only [s_J7_copyOf_1904c_0, s_J7_copyOf_1904c_0n, s_J7_copyOf_1904c_0z, s_J7_copyOf_1904c_1, s_J7_copyOf_1904c_2, s_J7_copyOf_1904c_2n, s_J7_copyOf_1904c_2z, s_J7_copyOf_1904c_3, s_J7_copyOf_1904c_3e, s_J7_copyOf_1904c_6, s_J7_copyOf_1904c_9, s_J7_copyOf_1904c_9z, s_J7_copyOf_1904c_9n, s_J7_copyOf_6403c_0, s_J7_copyOf_6403c_0n, s_J7_copyOf_6403c_0z, s_J7_copyOf_6403c_1, s_J7_copyOf_6403c_3, s_J7_copyOf_6403c_6, s_J7_copyOf_6403c_7, s_J7_copyOf_6403c_10, s_J7_copyOf_6403c_13, s_J7_copyOf_6403c_13n, s_J7_copyOf_6403c_13z, s_J7_copyOf_6403c_24, s_J7_copyOf_6403c_24n, s_J7_copyOf_6403c_24z, s_J7_copyOf_6403c_25, s_J7_copyOf_6403c_25n, s_J7_copyOf_6403c_25z, s_J7_copyOf_6403c_26, s_J7_copyOf_6403c_27, s_J7_copyOf_6403c_27n, s_J7_copyOf_6403c_27z, s_J7_copyOf_6403c_28, s_J7_copyOf_6403c_29, s_J7_copyOf_6403c_29n, s_J7_copyOf_6403c_29z, s_J7_copyOf_6403c_30, s_J7_copyOf_6403c_30e, s_J7_copyOf_6403c_31, s_J7_copyOf_6403c_32, s_J7_copyOf_6403c_35, s_J7_copyOf_6403c_35e, s_J7_copyOf_6403c_38, s_J7_copyOf_6403c_38n, s_J7_copyOf_6403c_38z, s_J7_copyOf_6403c_39, s_J7_copyOf_6403c_39z, s_J7_copyOf_6403c_39n, tl_some, tl_none, cv_int, cv_ref, cv_null, cv_long, cat_rf, jcv_nil, jcat_cons, jv_none, jv_int, jv_ref, jv_null, jw_rf, rf_some, rf_none, bz_0, bz_1, i1_0, i0_0, if_true, if_false, ite_self, List.nil_append, List.cons_append, Nat.reduceAdd, Nat.reduceLeDiff, Nat.zero_le, Nat.le_refl, and_self, and_true, true_and, not_true_eq_false, not_false_eq_true, reduceIte, hs1, he, h0, hcl, hb, ht0, hte, hn0, hne, hmin, hofn, hs, hlen, hjok]
  sorry
end
