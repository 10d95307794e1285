-- ===== ArrayList =====
/-- the list at a, its array e of c places, n elements f -/
def Lst (sv : Nat → Value) (g : jG) (I : tI) (P : tP) (a e c n : Nat) (f : Nat → Nat) : Prop := jt g a = some 1 ∧ P 1 1 a = some e ∧ I 1 2 a = nI n ∧ jn g e = c ∧ n ≤ c ∧ c ≤ 100000 ∧ ((c = 0 ∧ jt g e = some 95 ∧ sv 0 = .ref e) ∨ (10 ≤ c ∧ jt g e = some 53)) ∧ ∀ i, i < n → P 53 i e = some (f i)
section
variable {sv : Nat → Value} {d t u : Nat} {Q : Option Value → jM → Prop} {g : jG} {I : tI} {J : tJ} {P : tP} {M : jM} {a e c n : Nat} {f : Nat → Nat} {x y z : Int32}
theorem l_size (ht : jt g a = some 1) : Ev sv d (97, 0, [some (.ref a)], []) (tv t u g I J P) Q ↔ Q (some (.int (I 1 2 a))) (tv t u g I J P) := by
  simp only [s_Jx4a65c_size_8abf5_0, s_Jx4a65c_size_8abf5_0n, s_Jx4a65c_size_8abf5_0z, s_Jx4a65c_size_8abf5_1, s_Jx4a65c_size_8abf5_4, tl_some, tl_none, cv_int, cv_ref, cv_null, cv_long, cat_rf, jcv_nil, jcat_cons, jv_none, jv_int, jv_ref, jv_null, jw_rf, rf_some, rf_none, bz_0, bz_1, i1_0, i0_0, if_true, if_false, ite_self, List.nil_append, List.cons_append, Nat.reduceAdd, Nat.reduceLeDiff, Nat.zero_le, Nat.le_refl, and_self, and_true, true_and, not_true_eq_false, not_false_eq_true, reduceIte, ht]
theorem l_check3 (h0 : ¬ x < 0) (h1 : x < y) {l2 : Option Value} : Ev sv d (107, 0, [some (.int x), some (.int y), l2], []) M Q ↔ Q (some (.int x)) M := by
  simp only [s_J3_checkIndex_8e157_0, s_J3_checkIndex_8e157_1, s_J3_checkIndex_8e157_4, s_J3_checkIndex_8e157_5, s_J3_checkIndex_8e157_6, s_J3_checkIndex_8e157_9, s_J3_checkIndex_8e157_9n, s_J3_checkIndex_8e157_9z, s_J3_checkIndex_8e157_10, s_J3_checkIndex_8e157_11, s_J3_checkIndex_8e157_16, s_J3_checkIndex_8e157_17, tl_some, tl_none, cv_int, cv_ref, cv_null, cv_long, cat_rf, jcv_nil, jcat_cons, jv_none, jv_int, jv_ref, jv_null, jw_rf, rf_some, rf_none, bz_0, bz_1, i1_0, i0_0, if_true, if_false, ite_self, List.nil_append, List.cons_append, Nat.reduceAdd, Nat.reduceLeDiff, Nat.zero_le, Nat.le_refl, and_self, and_true, true_and, not_true_eq_false, not_false_eq_true, reduceIte, h0, h1]
theorem l_check (h0 : ¬ x < 0) (h1 : x < y) : Ev sv (d + 1) (104, 0, [some (.int x), some (.int y)], []) M Q ↔ Q (some (.int x)) M := by
  simp only [s_J15_checkIndex_7cf53_0, s_J15_checkIndex_7cf53_1, s_J15_checkIndex_7cf53_2, s_J15_checkIndex_7cf53_3, s_J15_checkIndex_7cf53_6, tl_some, tl_none, cv_int, cv_ref, cv_null, cv_long, cat_rf, jcv_nil, jcat_cons, jv_none, jv_int, jv_ref, jv_null, jw_rf, rf_some, rf_none, bz_0, bz_1, i1_0, i0_0, if_true, if_false, ite_self, List.nil_append, List.cons_append, Nat.reduceAdd, Nat.reduceLeDiff, Nat.zero_le, Nat.le_refl, and_self, and_true, true_and, not_true_eq_false, not_false_eq_true, reduceIte, l_check3 h0 h1]
theorem l_get (hl : Lst sv g I P a e c n f) {i : Nat} (hi : i < n) : Ev sv (d + 2) (99, 0, [some (.ref a), some (.int (nI i))], []) (tv t u g I J P) Q ↔ Q (some (.ref (f i))) (tv t u g I J P) := by
  obtain ⟨ha, he, hn, hc, hnc, hcb, hk, hf⟩ := hl
  have h53 : jt g e = some 53 := by
    rcases hk with ⟨h0, -⟩ | ⟨-, h⟩
    · omega
    · exact h
  have h0 : ¬ nI i < 0 := nI_nlt (b := 0) (by omega) (by omega)
  have h1 : nI i < nI n := nI_lt hi (by omega)
  have hj : jin (nI i) c = true := jin_nI (by omega) (by omega)
  have hcl : (nI i).toNatClampNeg = i := nI_clamp (by omega)
  have hfi := hf i hi
  simp only [s_Jx4a65c_get_915e3_0, s_Jx4a65c_get_915e3_1, s_Jx4a65c_get_915e3_1n, s_Jx4a65c_get_915e3_1z, s_Jx4a65c_get_915e3_2, s_Jx4a65c_get_915e3_5, s_Jx4a65c_get_915e3_8, s_Jx4a65c_get_915e3_9, s_Jx4a65c_get_915e3_9n, s_Jx4a65c_get_915e3_9z, s_Jx4a65c_get_915e3_10, s_Jx4a65c_get_915e3_11, s_Jx4a65c_get_915e3_14, s_Jx4a65c_get_915e3_14z, s_Jx4a65c_get_915e3_14n, s_Jx4a65c_elementData_915e3_0, s_Jx4a65c_elementData_915e3_0n, s_Jx4a65c_elementData_915e3_0z, s_Jx4a65c_elementData_915e3_1, s_Jx4a65c_elementData_915e3_4, s_Jx4a65c_elementData_915e3_5, s_Jx4a65c_elementData_915e3_6, s_Jx4a65c_elementData_915e3_6z, s_Jx4a65c_elementData_915e3_6n, tl_some, tl_none, cv_int, cv_ref, cv_null, cv_long, cat_rf, jcv_nil, jcat_cons, jv_none, jv_int, jv_ref, jv_null, jw_rf, rf_some, rf_none, bz_0, bz_1, i1_0, i0_0, if_true, if_false, ite_self, List.nil_append, List.cons_append, Nat.reduceAdd, Nat.reduceLeDiff, Nat.zero_le, Nat.le_refl, and_self, and_true, true_and, not_true_eq_false, not_false_eq_true, reduceIte, ha, he, hn, l_check h0 h1, h53, hc, hj, hcl, hfi]
/-- what adding to a list leaves -/
def LFr (t : Nat) (g g' : jG) (I I' : tI) (J J' : tJ) (P P' : tP) (a e : Nat) : Prop := (∀ b, b < t → jt g' b = jt g b ∧ jn g' b = jn g b) ∧ (∀ κ k b, κ ≠ 53 → ¬ (κ = 1 ∧ b = a) → I' κ k b = I κ k b) ∧ (∀ κ k b, κ ≠ 53 → J' κ k b = J κ k b) ∧ (∀ κ k b, κ ≠ 53 → ¬ (κ = 1 ∧ b = a) → P' κ k b = P κ k b) ∧ (∀ k b, b < t → b ≠ e → P' 53 k b = P 53 k b)
theorem l_newlen (h10 : 10 ≤ c) (hc : c ≤ 100000) : Ev sv (d + 1) (105, 0, [some (.int (nI c)), some (.int 1), some (.int (nI (c / 2))), none], []) M Q ↔ Q (some (.int (nI (c + c / 2)))) M := by
  have h1 : (1 : Int32) < nI (c / 2) := nI_lt (a := 1) (by omega) (by omega)
  have h2 : nI c + nI (c / 2) = nI (c + c / 2) := nI_add _ _
  have h3 : (0 : Int32) < nI (c + c / 2) := nI_lt (a := 0) (by omega) (by omega)
  have h4 : ¬ (2147483639 : Int32) < nI (c + c / 2) := nI_nlt (a := 2147483639) (by omega) (by omega)
  simp only [s_J8_newLength_cabcc_0, s_J8_newLength_cabcc_1, s_J8_newLength_cabcc_2, s_J8_newLength_cabcc_3, s_J8_newLength_cabcc_6, s_J8_newLength_cabcc_7, s_J8_newLength_cabcc_8, s_J8_newLength_cabcc_9, s_J8_newLength_cabcc_10, s_J8_newLength_cabcc_13, s_J8_newLength_cabcc_14, s_J8_newLength_cabcc_16, s_J8_newLength_cabcc_19, s_J8_newLength_cabcc_20, s_J8_newLength_cabcc_21, s_J8_newLength_cabcc_22, s_J8_newLength_cabcc_23, s_J8_newLength_cabcc_26, tl_some, tl_none, cv_int, cv_ref, cv_null, cv_long, cat_rf, jcv_nil, jcat_cons, jv_none, jv_int, jv_ref, jv_null, jw_rf, rf_some, rf_none, bz_0, bz_1, i1_0, i0_0, if_true, if_false, ite_self, List.nil_append, List.cons_append, Nat.reduceAdd, Nat.reduceLeDiff, Nat.zero_le, Nat.le_refl, and_self, and_true, true_and, not_true_eq_false, not_false_eq_true, reduceIte, h1, h2, h3, h4]
theorem l_copy {mi : Nat} (hs1 : sv 1 = .ref mi) (he : jt g e = some 53) (hn : jn g e = c) (h10 : 10 ≤ c) (hc : c ≤ 100000) (htg : ∀ b κ, jt g b = some κ → b < t) (hel : ∀ i, i < c → jok g (P 53 i e)) :
    Ev sv (d + 2) (102, 0, [some (.ref e), some (.int (nI (c + c / 2)))], []) (tv t u g I J P) Q ↔ Q (some (.ref t)) (tv (t + 1) (u + (c + c / 2)) (jgset g t (53, c + c / 2)) (upc I 53 t (fun _ => 0)) (upc J 53 t (fun _ => 0)) (upc (upc P 53 t (fun _ => none)) 53 t (va_cpy (fun k => P 53 k e) (fun _ => none) 0 0 c))) := by
  have het : e < t := htg _ _ he
  have h0 : ¬ nI (c + c / 2) < 0 := nI_nlt (b := 0) (by omega) (by omega)
  have hcl : (nI (c + c / 2)).toNatClampNeg = c + c / 2 := nI_clamp (by omega)
  have hb : c + c / 2 ≤ 1000000 := by omega
  have ht0 : jt (jgset g t (53, c + c / 2)) t = some 53 := by rw [jt_set, if_pos rfl]
  have hte : jt (jgset g t (53, c + c / 2)) e = some 53 := by rw [jt_set, if_neg (by omega)]; exact he
  have hn0 : jn (jgset g t (53, c + c / 2)) t = c + c / 2 := by rw [jn_set, if_pos rfl]
  have hne : jn (jgset g t (53, c + c / 2)) e = c := by rw [jn_set, if_neg (by omega)]; exact hn
  have hmin : ¬ nI (c + c / 2) < nI c := nI_nlt (by omega) (by omega)
  have hofn : Int32.ofNat c = nI c := rfl
  have hclc : (nI c).toNatClampNeg = c := nI_clamp (by omega)
  have hz : ((0 : Int32).toNatClampNeg) = 0 := by decide
  have hs : ¬ (0 : Int32) < 0 ∧ ¬ (0 : Int32) < 0 ∧ ¬ nI c < 0 := ⟨by decide, by decide, nI_nlt (b := 0) (by omega) (by omega)⟩
  have hPe : ∀ k, upc P 53 t (fun _ => none) 53 k e = P 53 k e := fun k => if_neg (fun q => by omega)
  have hPt : ∀ k, upc P 53 t (fun _ => none) 53 k t = none := fun k => if_pos ⟨rfl, rfl⟩
  have hjok : ∀ i, i < (nI c).toNatClampNeg → jok (jgset g t (53, c + c / 2)) (upc P 53 t (fun _ => none) 53 ((0 : Int32).toNatClampNeg + i) e) := by
    intro i hi y hy
    rw [hclc] at hi
    rw [hz, Nat.zero_add, hPe] at hy
    have h3 := hel i hi y hy
    have hyt : y < t := by
      rcases h3 with h3 | h3 | h3 <;> exact htg _ _ h3
    rw [jt_set, if_neg (by omega)]
    exact h3
  have hlen : (0 : Int32).toNatClampNeg + (nI c).toNatClampNeg ≤ jn (jgset g t (53, c + c / 2)) e ∧ (0 : Int32).toNatClampNeg + (nI c).toNatClampNeg ≤ jn (jgset g t (53, c + c / 2)) t := by
    rw [hz, hclc, hne, hn0]
    omega
  simp only [s_J7_copyOf_1904c_0, s_J7_copyOf_1904c_0n, s_J7_copyOf_1904c_0z, s_J7_copyOf_1904c_1, s_J7_copyOf_1904c_2, s_J7_copyOf_1904c_2n, s_J7_copyOf_1904c_2z, s_J7_copyOf_1904c_3, s_J7_copyOf_1904c_3e, s_J7_copyOf_1904c_6, s_J7_copyOf_1904c_9, s_J7_copyOf_1904c_9z, s_J7_copyOf_1904c_9n, s_J7_copyOf_6403c_0, s_J7_copyOf_6403c_0n, s_J7_copyOf_6403c_0z, s_J7_copyOf_6403c_1, s_J7_copyOf_6403c_3, s_J7_copyOf_6403c_6, s_J7_copyOf_6403c_7, s_J7_copyOf_6403c_10, s_J7_copyOf_6403c_13, s_J7_copyOf_6403c_13n, s_J7_copyOf_6403c_13z, s_J7_copyOf_6403c_24, s_J7_copyOf_6403c_24n, s_J7_copyOf_6403c_24z, s_J7_copyOf_6403c_25, s_J7_copyOf_6403c_25n, s_J7_copyOf_6403c_25z, s_J7_copyOf_6403c_26, s_J7_copyOf_6403c_27, s_J7_copyOf_6403c_27n, s_J7_copyOf_6403c_27z, s_J7_copyOf_6403c_28, s_J7_copyOf_6403c_29, s_J7_copyOf_6403c_29n, s_J7_copyOf_6403c_29z, s_J7_copyOf_6403c_30, s_J7_copyOf_6403c_30e, s_J7_copyOf_6403c_31, s_J7_copyOf_6403c_32, s_J7_copyOf_6403c_35, s_J7_copyOf_6403c_35e, s_J7_copyOf_6403c_38, s_J7_copyOf_6403c_38n, s_J7_copyOf_6403c_38z, s_J7_copyOf_6403c_39, s_J7_copyOf_6403c_39z, s_J7_copyOf_6403c_39n, tl_some, tl_none, cv_int, cv_ref, cv_null, cv_long, cat_rf, jcv_nil, jcat_cons, jv_none, jv_int, jv_ref, jv_null, jw_rf, rf_some, rf_none, bz_0, bz_1, i1_0, i0_0, if_true, if_false, ite_self, List.nil_append, List.cons_append, Nat.reduceAdd, Nat.reduceLeDiff, Nat.zero_le, Nat.le_refl, and_self, and_true, true_and, not_true_eq_false, not_false_eq_true, reduceIte, hs1, he, h0, hcl, hb, ht0, hte, hn0, hne, hmin, hofn]
  refine (s_J7_copyOf_6403c_35 hte ht0 hs hlen hjok (by rw [jcv_nil]; decide)).trans ?_
  have eP1 : (fun k => upc P 53 t (fun _ => none) 53 k e) = fun k => P 53 k e := funext hPe
  have eP2 : (fun k => upc P 53 t (fun _ => none) 53 k t) = fun _ => none := funext hPt
  rw [eP1, eP2, hz, hclc]
  simp only [s_J7_copyOf_6403c_38, s_J7_copyOf_6403c_38n, s_J7_copyOf_6403c_38z, s_J7_copyOf_6403c_39, s_J7_copyOf_6403c_39z, s_J7_copyOf_6403c_39n, s_J7_copyOf_1904c_9, s_J7_copyOf_1904c_9z, s_J7_copyOf_1904c_9n, tl_some, tl_none, cv_int, cv_ref, cv_null, cv_long, cat_rf, jcv_nil, jcat_cons, jv_none, jv_int, jv_ref, jv_null, jw_rf, rf_some, rf_none, bz_0, bz_1, i1_0, i0_0, if_true, if_false, ite_self, List.nil_append, List.cons_append, Nat.reduceAdd, Nat.reduceLeDiff, Nat.zero_le, Nat.le_refl, and_self, and_true, true_and, not_true_eq_false, not_false_eq_true, reduceIte]
theorem l_grow53 {mi : Nat} (hs1 : sv 1 = .ref mi) (hl : Lst sv g I P a e c c f) (h10 : 10 ≤ c) (hc : c < 60000) (htg : ∀ b κ, jt g b = some κ → b < t) (hel : ∀ i, i < c → jok g (P 53 i e)) :
    Ev sv (d + 4) (96, 0, [some (.ref a)], []) (tv t u g I J P) Q ↔ Q (some (.ref t)) (tv (t + 1) (u + (c + c / 2)) (jgset g t (53, c + c / 2)) (upc I 53 t (fun _ => 0)) (upc J 53 t (fun _ => 0)) (ups (upc (upc P 53 t (fun _ => none)) 53 t (va_cpy (fun k => P 53 k e) (fun _ => none) 0 0 c)) 1 1 a (some t))) := by
  obtain ⟨ha, he, hn, hcc, hnc, hcb, hk, hf⟩ := hl
  have h53 : jt g e = some 53 := by
    rcases hk with ⟨h0, -⟩ | ⟨-, h⟩
    · omega
    · exact h
  have hat : a < t := htg _ _ ha
  have h0 : (0 : Int32) < nI c := nI_lt (a := 0) (by omega) (by omega)
  have hofn : Int32.ofNat c = nI c := rfl
  have hsub : nI c + 1 - nI c = 1 := by
    rw [Int32.add_comm, Int32.add_sub_cancel]
  have hsh : nI c >>> ((1 : Int32) &&& 31) = nI (c / 2) := by
    have k := pk_shrN (n := c) (by omega) ((1 : Int32) &&& 31) 1 (by decide)
    rw [Nat.pow_one] at k
    exact k
  have hta : jt (jgset g t (53, c + c / 2)) a = some 1 := by rw [jt_set, if_neg (by omega)]; exact ha
  have hcp := fun (Q : Option Value → jM → Prop) => l_copy (sv := sv) (d := d) (t := t) (u := u) (Q := Q) (g := g) (I := I) (J := J) (P := P) (e := e) (c := c) hs1 h53 hcc h10 (by omega) htg hel
  have hnl := fun (Q : Option Value → jM → Prop) => l_newlen (sv := sv) (d := d + 1) (Q := Q) (M := tv t u g I J P) (c := c) h10 (by omega)
  simp only [s_Jx4a65c_grow_d5877_0, s_Jx4a65c_grow_d5877_0n, s_Jx4a65c_grow_d5877_0z, s_Jx4a65c_grow_d5877_1, s_Jx4a65c_grow_d5877_1n, s_Jx4a65c_grow_d5877_1z, s_Jx4a65c_grow_d5877_2, s_Jx4a65c_grow_d5877_5, s_Jx4a65c_grow_d5877_6, s_Jx4a65c_grow_d5877_7, s_Jx4a65c_grow_d5877_10, s_Jx4a65c_grow_d5877_10z, s_Jx4a65c_grow_d5877_10n, s_Jx4a65c_grow_92f84_0, s_Jx4a65c_grow_92f84_0n, s_Jx4a65c_grow_92f84_0z, s_Jx4a65c_grow_92f84_1, s_Jx4a65c_grow_92f84_4, s_Jx4a65c_grow_92f84_4e, s_Jx4a65c_grow_92f84_5, s_Jx4a65c_grow_92f84_6, s_Jx4a65c_grow_92f84_7, s_Jx4a65c_grow_92f84_10, s_Jx4a65c_grow_92f84_10n, s_Jx4a65c_grow_92f84_10z, s_Jx4a65c_grow_92f84_11, s_Jx4a65c_grow_92f84_14, s_Jx4a65c_grow_92f84_17, s_Jx4a65c_grow_92f84_20, s_Jx4a65c_grow_92f84_21, s_Jx4a65c_grow_92f84_22, s_Jx4a65c_grow_92f84_23, s_Jx4a65c_grow_92f84_24, s_Jx4a65c_grow_92f84_25, s_Jx4a65c_grow_92f84_26, s_Jx4a65c_grow_92f84_27, s_Jx4a65c_grow_92f84_30, s_Jx4a65c_grow_92f84_31, s_Jx4a65c_grow_92f84_31n, s_Jx4a65c_grow_92f84_31z, s_Jx4a65c_grow_92f84_32, s_Jx4a65c_grow_92f84_32n, s_Jx4a65c_grow_92f84_32z, s_Jx4a65c_grow_92f84_33, s_Jx4a65c_grow_92f84_36, s_Jx4a65c_grow_92f84_37, s_Jx4a65c_grow_92f84_40, s_Jx4a65c_grow_92f84_41, s_Jx4a65c_grow_92f84_41n, s_Jx4a65c_grow_92f84_44, s_Jx4a65c_grow_92f84_44z, s_Jx4a65c_grow_92f84_44n, s_Jx4a65c_grow_92f84_45, s_Jx4a65c_grow_92f84_45n, s_Jx4a65c_grow_92f84_45z, s_Jx4a65c_grow_92f84_46, s_Jx4a65c_grow_92f84_48, s_Jx4a65c_grow_92f84_49, s_Jx4a65c_grow_92f84_52, s_Jx4a65c_grow_92f84_55, s_Jx4a65c_grow_92f84_56, s_Jx4a65c_grow_92f84_56n, s_Jx4a65c_grow_92f84_59, s_Jx4a65c_grow_92f84_59z, s_Jx4a65c_grow_92f84_59n, tl_some, tl_none, cv_int, cv_ref, cv_null, cv_long, cat_rf, jcv_nil, jcat_cons, jv_none, jv_int, jv_ref, jv_null, jw_rf, rf_some, rf_none, bz_0, bz_1, i1_0, i0_0, if_true, if_false, ite_self, List.nil_append, List.cons_append, Nat.reduceAdd, Nat.reduceLeDiff, Nat.zero_le, Nat.le_refl, and_self, and_true, true_and, not_true_eq_false, not_false_eq_true, reduceIte, ha, he, hn, h53, hcc, hofn, h0, hsub, hsh, hnl, hcp, hta]
theorem l_grow95 (hl : Lst sv g I P a e 0 0 f) (htg : ∀ b κ, jt g b = some κ → b < t) :
    Ev sv (d + 2) (96, 0, [some (.ref a)], []) (tv t u g I J P) Q ↔ Q (some (.ref t)) (tv (t + 1) (u + 10) (jgset g t (53, 10)) (upc I 53 t (fun _ => 0)) (upc J 53 t (fun _ => 0)) (ups (upc P 53 t (fun _ => none)) 1 1 a (some t))) := by
  obtain ⟨ha, he, hn, hcc, hnc, hcb, hk, hf⟩ := hl
  have h95 : jt g e = some 95 ∧ sv 0 = .ref e := by
    rcases hk with ⟨-, h, h2⟩ | ⟨h, -⟩
    · exact ⟨h, h2⟩
    · omega
  have h95a := h95.1
  have h95b := h95.2
  have hat : a < t := htg _ _ ha
  have h0 : ¬ (0 : Int32) < Int32.ofNat 0 := by decide
  have hmax : ¬ (10 : Int32) < nI 0 + 1 := by decide
  have h10 : ¬ (10 : Int32) < 0 := by decide
  have hcl : (10 : Int32).toNatClampNeg = 10 := by decide
  have hta : jt (jgset g t (53, 10)) a = some 1 := by rw [jt_set, if_neg (by omega)]; exact ha
  simp only [s_Jx4a65c_grow_d5877_0, s_Jx4a65c_grow_d5877_0n, s_Jx4a65c_grow_d5877_0z, s_Jx4a65c_grow_d5877_1, s_Jx4a65c_grow_d5877_1n, s_Jx4a65c_grow_d5877_1z, s_Jx4a65c_grow_d5877_2, s_Jx4a65c_grow_d5877_5, s_Jx4a65c_grow_d5877_6, s_Jx4a65c_grow_d5877_7, s_Jx4a65c_grow_d5877_10, s_Jx4a65c_grow_d5877_10z, s_Jx4a65c_grow_d5877_10n, s_Jx4a65c_grow_92f84_0, s_Jx4a65c_grow_92f84_0n, s_Jx4a65c_grow_92f84_0z, s_Jx4a65c_grow_92f84_1, s_Jx4a65c_grow_92f84_4, s_Jx4a65c_grow_92f84_4e, s_Jx4a65c_grow_92f84_5, s_Jx4a65c_grow_92f84_6, s_Jx4a65c_grow_92f84_7, s_Jx4a65c_grow_92f84_10, s_Jx4a65c_grow_92f84_10n, s_Jx4a65c_grow_92f84_10z, s_Jx4a65c_grow_92f84_11, s_Jx4a65c_grow_92f84_14, s_Jx4a65c_grow_92f84_17, s_Jx4a65c_grow_92f84_20, s_Jx4a65c_grow_92f84_21, s_Jx4a65c_grow_92f84_22, s_Jx4a65c_grow_92f84_23, s_Jx4a65c_grow_92f84_24, s_Jx4a65c_grow_92f84_25, s_Jx4a65c_grow_92f84_26, s_Jx4a65c_grow_92f84_27, s_Jx4a65c_grow_92f84_30, s_Jx4a65c_grow_92f84_31, s_Jx4a65c_grow_92f84_31n, s_Jx4a65c_grow_92f84_31z, s_Jx4a65c_grow_92f84_32, s_Jx4a65c_grow_92f84_32n, s_Jx4a65c_grow_92f84_32z, s_Jx4a65c_grow_92f84_33, s_Jx4a65c_grow_92f84_36, s_Jx4a65c_grow_92f84_37, s_Jx4a65c_grow_92f84_40, s_Jx4a65c_grow_92f84_41, s_Jx4a65c_grow_92f84_41n, s_Jx4a65c_grow_92f84_44, s_Jx4a65c_grow_92f84_44z, s_Jx4a65c_grow_92f84_44n, s_Jx4a65c_grow_92f84_45, s_Jx4a65c_grow_92f84_45n, s_Jx4a65c_grow_92f84_45z, s_Jx4a65c_grow_92f84_46, s_Jx4a65c_grow_92f84_48, s_Jx4a65c_grow_92f84_49, s_Jx4a65c_grow_92f84_52, s_Jx4a65c_grow_92f84_55, s_Jx4a65c_grow_92f84_56, s_Jx4a65c_grow_92f84_56n, s_Jx4a65c_grow_92f84_59, s_Jx4a65c_grow_92f84_59z, s_Jx4a65c_grow_92f84_59n, tl_some, tl_none, cv_int, cv_ref, cv_null, cv_long, cat_rf, jcv_nil, jcat_cons, jv_none, jv_int, jv_ref, jv_null, jw_rf, rf_some, rf_none, bz_0, bz_1, i1_0, i0_0, if_true, if_false, ite_self, List.nil_append, List.cons_append, Nat.reduceAdd, Nat.reduceLeDiff, Nat.zero_le, Nat.le_refl, and_self, and_true, true_and, not_true_eq_false, not_false_eq_true, reduceIte, ha, he, hn, h95a, h95b, hcc, h0, hmax, h10, hcl, hta]
theorem l_add_in {v : Nat} (hl : Lst sv g I P a e c n f) (hlt : n < c) (hv : jt g v = some 2 ∨ jt g v = some 4 ∨ jt g v = some 5) :
    Ev sv (d + 1) (101, 0, [some (.ref a), some (.ref v)], []) (tv t u g I J P) Q ↔ Q (some (.int 1)) (tv t u g (ups (ups I 1 0 a (I 1 0 a + 1)) 1 2 a (nI (n + 1))) J (ups P 53 n e (some v))) := by
  obtain ⟨ha, he, hn, hc, hnc, hcb, hk, hf⟩ := hl
  have h53 : jt g e = some 53 := by
    rcases hk with ⟨h0, -⟩ | ⟨-, h⟩
    · omega
    · exact h
  have hj : jin (nI n) c = true := jin_nI (by omega) (by omega)
  have hcl : (nI n).toNatClampNeg = n := nI_clamp (by omega)
  have hofn : Int32.ofNat c = nI c := rfl
  have hne : ¬ nI n = nI c := fun q => absurd ((nI_eq (by omega) (by omega)).mp q) (by omega)
  have hs := nIs n
  have e2 : ∀ w, ups I 1 0 a w 1 2 a = nI n := fun w => by rw [ups_ap, if_neg (fun q => absurd q.2.1 (by decide))]; exact hn
  rcases hv with hv | hv | hv <;>
    simp only [s_Jx4a65c_add_9ea2d_0, s_Jx4a65c_add_9ea2d_0n, s_Jx4a65c_add_9ea2d_0z, s_Jx4a65c_add_9ea2d_1, s_Jx4a65c_add_9ea2d_2, s_Jx4a65c_add_9ea2d_5, s_Jx4a65c_add_9ea2d_6, s_Jx4a65c_add_9ea2d_7, s_Jx4a65c_add_9ea2d_10, s_Jx4a65c_add_9ea2d_10n, s_Jx4a65c_add_9ea2d_10z, s_Jx4a65c_add_9ea2d_11, s_Jx4a65c_add_9ea2d_11n, s_Jx4a65c_add_9ea2d_11z, s_Jx4a65c_add_9ea2d_12, s_Jx4a65c_add_9ea2d_12n, s_Jx4a65c_add_9ea2d_12z, s_Jx4a65c_add_9ea2d_13, s_Jx4a65c_add_9ea2d_16, s_Jx4a65c_add_9ea2d_16n, s_Jx4a65c_add_9ea2d_16z, s_Jx4a65c_add_9ea2d_17, s_Jx4a65c_add_9ea2d_20, s_Jx4a65c_add_9ea2d_23, s_Jx4a65c_add_9ea2d_24, s_Jx4a65c_add_72be8_0, s_Jx4a65c_add_72be8_1, s_Jx4a65c_add_72be8_1n, s_Jx4a65c_add_72be8_1z, s_Jx4a65c_add_72be8_2, s_Jx4a65c_add_72be8_2e, s_Jx4a65c_add_72be8_3, s_Jx4a65c_add_72be8_6, s_Jx4a65c_add_72be8_6n, s_Jx4a65c_add_72be8_6z, s_Jx4a65c_add_72be8_7, s_Jx4a65c_add_72be8_10, s_Jx4a65c_add_72be8_10n, s_Jx4a65c_add_72be8_10z, s_Jx4a65c_add_72be8_11, s_Jx4a65c_add_72be8_11n, s_Jx4a65c_add_72be8_11z, s_Jx4a65c_add_72be8_12, s_Jx4a65c_add_72be8_13, s_Jx4a65c_add_72be8_13n, s_Jx4a65c_add_72be8_13z, s_Jx4a65c_add_72be8_14k2, s_Jx4a65c_add_72be8_14k4, s_Jx4a65c_add_72be8_14k5, s_Jx4a65c_add_72be8_15, s_Jx4a65c_add_72be8_15n, s_Jx4a65c_add_72be8_15z, s_Jx4a65c_add_72be8_16, s_Jx4a65c_add_72be8_17, s_Jx4a65c_add_72be8_18, s_Jx4a65c_add_72be8_19, s_Jx4a65c_add_72be8_22, tl_some, tl_none, cv_int, cv_ref, cv_null, cv_long, cat_rf, jcv_nil, jcat_cons, jv_none, jv_int, jv_ref, jv_null, jw_rf, rf_some, rf_none, bz_0, bz_1, i1_0, i0_0, if_true, if_false, ite_self, List.nil_append, List.cons_append, Nat.reduceAdd, Nat.reduceLeDiff, Nat.zero_le, Nat.le_refl, and_self, and_true, true_and, not_true_eq_false, not_false_eq_true, reduceIte, ha, he, h53, hc, hofn, hne, hj, hcl, hv, hs, e2]
theorem l_add_10 {v : Nat} (hl : Lst sv g I P a e 0 0 f) (htg : ∀ b κ, jt g b = some κ → b < t) (hv : jt g v = some 2 ∨ jt g v = some 4 ∨ jt g v = some 5) :
    Ev sv (d + 4) (101, 0, [some (.ref a), some (.ref v)], []) (tv t u g I J P) Q ↔ Q (some (.int 1)) (tv (t + 1) (u + 10) (jgset g t (53, 10)) (ups (upc (ups I 1 0 a (I 1 0 a + 1)) 53 t (fun _ => 0)) 1 2 a (nI 1)) (upc J 53 t (fun _ => 0)) (ups (ups (upc P 53 t (fun _ => none)) 1 1 a (some t)) 53 0 t (some v))) := by
  have hl0 := hl
  obtain ⟨ha, he, hn, hc, hnc, hcb, hk, hf⟩ := hl
  have h95 : jt g e = some 95 := by
    rcases hk with ⟨-, h, -⟩ | ⟨h, -⟩
    · exact h
    · omega
  have hat : a < t := htg _ _ ha
  have hl1 : ∀ w, Lst sv g (ups I 1 0 a w) P a e 0 0 f := fun w => ⟨ha, he, by rw [ups_ap, if_neg (fun q => absurd q.2.1 (by decide))]; exact hn, hc, hnc, hcb, hk, hf⟩
  have e2 : ∀ w, ups I 1 0 a w 1 2 a = 0 := fun w => by rw [ups_ap, if_neg (fun q => absurd q.2.1 (by decide))]; exact hn
  have hofn : Int32.ofNat 0 = 0 := rfl
  have hgr := fun (Q : Option Value → jM → Prop) (w : Int32) => l_grow95 (sv := sv) (d := d) (t := t) (u := u) (Q := Q) (J := J) (hl1 w) htg
  have ht0 : jt (jgset g t (53, 10)) t = some 53 := by rw [jt_set, if_pos rfl]
  have hn0 : jn (jgset g t (53, 10)) t = 10 := by rw [jn_set, if_pos rfl]
  have hta : jt (jgset g t (53, 10)) a = some 1 := by rw [jt_set, if_neg (by omega)]; exact ha
  have hj : jin (0 : Int32) 10 = true := by decide
  have hcl : (0 : Int32).toNatClampNeg = 0 := by decide
  have h01 : (0 : Int32) + 1 = nI 1 := by decide
  have hvt : v < t := by rcases hv with hv | hv | hv <;> exact htg _ _ hv
  have hv' : ∀ κ, jt g v = some κ → jt (jgset g t (53, 10)) v = some κ := fun κ h => by rw [jt_set, if_neg (by omega)]; exact h
  rcases hv with hv | hv | hv <;>
    (have hv1 := hv' _ hv
     simp only [s_Jx4a65c_add_9ea2d_0, s_Jx4a65c_add_9ea2d_0n, s_Jx4a65c_add_9ea2d_0z, s_Jx4a65c_add_9ea2d_1, s_Jx4a65c_add_9ea2d_2, s_Jx4a65c_add_9ea2d_5, s_Jx4a65c_add_9ea2d_6, s_Jx4a65c_add_9ea2d_7, s_Jx4a65c_add_9ea2d_10, s_Jx4a65c_add_9ea2d_10n, s_Jx4a65c_add_9ea2d_10z, s_Jx4a65c_add_9ea2d_11, s_Jx4a65c_add_9ea2d_11n, s_Jx4a65c_add_9ea2d_11z, s_Jx4a65c_add_9ea2d_12, s_Jx4a65c_add_9ea2d_12n, s_Jx4a65c_add_9ea2d_12z, s_Jx4a65c_add_9ea2d_13, s_Jx4a65c_add_9ea2d_16, s_Jx4a65c_add_9ea2d_16n, s_Jx4a65c_add_9ea2d_16z, s_Jx4a65c_add_9ea2d_17, s_Jx4a65c_add_9ea2d_20, s_Jx4a65c_add_9ea2d_23, s_Jx4a65c_add_9ea2d_24, s_Jx4a65c_add_72be8_0, s_Jx4a65c_add_72be8_1, s_Jx4a65c_add_72be8_1n, s_Jx4a65c_add_72be8_1z, s_Jx4a65c_add_72be8_2, s_Jx4a65c_add_72be8_2e, s_Jx4a65c_add_72be8_3, s_Jx4a65c_add_72be8_6, s_Jx4a65c_add_72be8_6n, s_Jx4a65c_add_72be8_6z, s_Jx4a65c_add_72be8_7, s_Jx4a65c_add_72be8_10, s_Jx4a65c_add_72be8_10n, s_Jx4a65c_add_72be8_10z, s_Jx4a65c_add_72be8_11, s_Jx4a65c_add_72be8_11n, s_Jx4a65c_add_72be8_11z, s_Jx4a65c_add_72be8_12, s_Jx4a65c_add_72be8_13, s_Jx4a65c_add_72be8_13n, s_Jx4a65c_add_72be8_13z, s_Jx4a65c_add_72be8_14k2, s_Jx4a65c_add_72be8_14k4, s_Jx4a65c_add_72be8_14k5, s_Jx4a65c_add_72be8_15, s_Jx4a65c_add_72be8_15n, s_Jx4a65c_add_72be8_15z, s_Jx4a65c_add_72be8_16, s_Jx4a65c_add_72be8_17, s_Jx4a65c_add_72be8_18, s_Jx4a65c_add_72be8_19, s_Jx4a65c_add_72be8_22, tl_some, tl_none, cv_int, cv_ref, cv_null, cv_long, cat_rf, jcv_nil, jcat_cons, jv_none, jv_int, jv_ref, jv_null, jw_rf, rf_some, rf_none, bz_0, bz_1, i1_0, i0_0, if_true, if_false, ite_self, List.nil_append, List.cons_append, Nat.reduceAdd, Nat.reduceLeDiff, Nat.zero_le, Nat.le_refl, and_self, and_true, true_and, not_true_eq_false, not_false_eq_true, reduceIte, ha, he, h95, hc, hofn, e2, hgr, ht0, hn0, hta, hj, hcl, hv1, h01])
theorem l_add_up {v mi : Nat} (hs1 : sv 1 = .ref mi) (hl : Lst sv g I P a e c c f) (h10 : 10 ≤ c) (hcc : c < 60000) (htg : ∀ b κ, jt g b = some κ → b < t) (hel : ∀ i, i < c → jok g (P 53 i e)) (hv : jt g v = some 2 ∨ jt g v = some 4 ∨ jt g v = some 5) :
    Ev sv (d + 6) (101, 0, [some (.ref a), some (.ref v)], []) (tv t u g I J P) Q ↔ Q (some (.int 1)) (tv (t + 1) (u + (c + c / 2)) (jgset g t (53, c + c / 2)) (ups (upc (ups I 1 0 a (I 1 0 a + 1)) 53 t (fun _ => 0)) 1 2 a (nI (c + 1))) (upc J 53 t (fun _ => 0)) (ups (ups (upc (upc P 53 t (fun _ => none)) 53 t (va_cpy (fun k => P 53 k e) (fun _ => none) 0 0 c)) 1 1 a (some t)) 53 c t (some v))) := by
  have hl0 := hl
  obtain ⟨ha, he, hn, hc, hnc, hcb, hk, hf⟩ := hl
  have h53 : jt g e = some 53 := by
    rcases hk with ⟨h0, -⟩ | ⟨-, h⟩
    · omega
    · exact h
  have hat : a < t := htg _ _ ha
  have hl1 : ∀ w, Lst sv g (ups I 1 0 a w) P a e c c f := fun w => ⟨ha, he, by rw [ups_ap, if_neg (fun q => absurd q.2.1 (by decide))]; exact hn, hc, hnc, hcb, hk, hf⟩
  have e2 : ∀ w, ups I 1 0 a w 1 2 a = nI c := fun w => by rw [ups_ap, if_neg (fun q => absurd q.2.1 (by decide))]; exact hn
  have hofn : Int32.ofNat c = nI c := rfl
  have hgr := fun (Q : Option Value → jM → Prop) (w : Int32) => l_grow53 (sv := sv) (d := d) (t := t) (u := u) (Q := Q) (J := J) hs1 (hl1 w) h10 hcc htg hel
  have ht0 : jt (jgset g t (53, c + c / 2)) t = some 53 := by rw [jt_set, if_pos rfl]
  have hn0 : jn (jgset g t (53, c + c / 2)) t = c + c / 2 := by rw [jn_set, if_pos rfl]
  have hta : jt (jgset g t (53, c + c / 2)) a = some 1 := by rw [jt_set, if_neg (by omega)]; exact ha
  have hj : jin (nI c) (c + c / 2) = true := jin_nI (by omega) (by omega)
  have hcl : (nI c).toNatClampNeg = c := nI_clamp (by omega)
  have hs := nIs c
  have hvt : v < t := by rcases hv with hv | hv | hv <;> exact htg _ _ hv
  have hv' : ∀ κ, jt g v = some κ → jt (jgset g t (53, c + c / 2)) v = some κ := fun κ h => by rw [jt_set, if_neg (by omega)]; exact h
  rcases hv with hv | hv | hv <;>
    (have hv1 := hv' _ hv
     simp only [s_Jx4a65c_add_9ea2d_0, s_Jx4a65c_add_9ea2d_0n, s_Jx4a65c_add_9ea2d_0z, s_Jx4a65c_add_9ea2d_1, s_Jx4a65c_add_9ea2d_2, s_Jx4a65c_add_9ea2d_5, s_Jx4a65c_add_9ea2d_6, s_Jx4a65c_add_9ea2d_7, s_Jx4a65c_add_9ea2d_10, s_Jx4a65c_add_9ea2d_10n, s_Jx4a65c_add_9ea2d_10z, s_Jx4a65c_add_9ea2d_11, s_Jx4a65c_add_9ea2d_11n, s_Jx4a65c_add_9ea2d_11z, s_Jx4a65c_add_9ea2d_12, s_Jx4a65c_add_9ea2d_12n, s_Jx4a65c_add_9ea2d_12z, s_Jx4a65c_add_9ea2d_13, s_Jx4a65c_add_9ea2d_16, s_Jx4a65c_add_9ea2d_16n, s_Jx4a65c_add_9ea2d_16z, s_Jx4a65c_add_9ea2d_17, s_Jx4a65c_add_9ea2d_20, s_Jx4a65c_add_9ea2d_23, s_Jx4a65c_add_9ea2d_24, s_Jx4a65c_add_72be8_0, s_Jx4a65c_add_72be8_1, s_Jx4a65c_add_72be8_1n, s_Jx4a65c_add_72be8_1z, s_Jx4a65c_add_72be8_2, s_Jx4a65c_add_72be8_2e, s_Jx4a65c_add_72be8_3, s_Jx4a65c_add_72be8_6, s_Jx4a65c_add_72be8_6n, s_Jx4a65c_add_72be8_6z, s_Jx4a65c_add_72be8_7, s_Jx4a65c_add_72be8_10, s_Jx4a65c_add_72be8_10n, s_Jx4a65c_add_72be8_10z, s_Jx4a65c_add_72be8_11, s_Jx4a65c_add_72be8_11n, s_Jx4a65c_add_72be8_11z, s_Jx4a65c_add_72be8_12, s_Jx4a65c_add_72be8_13, s_Jx4a65c_add_72be8_13n, s_Jx4a65c_add_72be8_13z, s_Jx4a65c_add_72be8_14k2, s_Jx4a65c_add_72be8_14k4, s_Jx4a65c_add_72be8_14k5, s_Jx4a65c_add_72be8_15, s_Jx4a65c_add_72be8_15n, s_Jx4a65c_add_72be8_15z, s_Jx4a65c_add_72be8_16, s_Jx4a65c_add_72be8_17, s_Jx4a65c_add_72be8_18, s_Jx4a65c_add_72be8_19, s_Jx4a65c_add_72be8_22, tl_some, tl_none, cv_int, cv_ref, cv_null, cv_long, cat_rf, jcv_nil, jcat_cons, jv_none, jv_int, jv_ref, jv_null, jw_rf, rf_some, rf_none, bz_0, bz_1, i1_0, i0_0, if_true, if_false, ite_self, List.nil_append, List.cons_append, Nat.reduceAdd, Nat.reduceLeDiff, Nat.zero_le, Nat.le_refl, and_self, and_true, true_and, not_true_eq_false, not_false_eq_true, reduceIte, ha, he, h53, hc, hofn, e2, hgr, ht0, hn0, hta, hj, hcl, hv1, hs])
/-- adding an element -/
theorem l_add {v mi : Nat} (hs1 : sv 1 = .ref mi) (hl : Lst sv g I P a e c n f) (hn4 : n < 50000) (htg : ∀ b κ, jt g b = some κ → b < t) (hel : ∀ i, i < n → jt g (f i) = some 2 ∨ jt g (f i) = some 4 ∨ jt g (f i) = some 5) (hv : jt g v = some 2 ∨ jt g v = some 4 ∨ jt g v = some 5) (hc2 : c ≤ 10 ∨ c ≤ 2 * n)
    (K : ∀ (t' u' : Nat) (g' : jG) (I' : tI) (J' : tJ) (P' : tP) (e' c' : Nat), Lst sv g' I' P' a e' c' (n + 1) (fun i => if i = n then v else f i) → LFr t g g' I I' J J' P P' a e → t ≤ t' → t' ≤ t + 1 → u ≤ u' → u' + 4 * c ≤ u + 4 * c' → (c' ≤ 10 ∨ c' ≤ 2 * (n + 1)) → (e' = e ∨ t ≤ e') → (∀ b κ, jt g' b = some κ → b < t') → Q (some (.int 1)) (tv t' u' g' I' J' P')) :
    Ev sv (d + 6) (101, 0, [some (.ref a), some (.ref v)], []) (tv t u g I J P) Q := by
  have hl0 := hl
  obtain ⟨ha, he, hn, hc, hnc, hcb, hk, hf⟩ := hl
  have hat : a < t := htg _ _ ha
  by_cases hlt : n < c
  · refine (l_add_in (d := d + 5) hl0 hlt hv).mpr (K _ _ _ _ _ _ e c ⟨ha, ?_, ?_, hc, by omega, hcb, hk, fun i hi => ?_⟩ ⟨fun b _ => ⟨rfl, rfl⟩, fun κ k b h1 h2 => ?_, fun _ _ _ _ => rfl, fun κ k b h1 h2 => ?_, fun k b h1 h2 => ?_⟩ (Nat.le_refl _) (by omega) (Nat.le_refl _) (Nat.le_refl _) (by omega) (Or.inl rfl) htg)
    · rw [ups_ap, if_neg (fun q => absurd q.1 (by decide))]; exact he
    · rw [ups_ap, if_pos ⟨rfl, rfl, rfl⟩]
    · show ups P 53 n e (some v) 53 i e = some (if i = n then v else f i)
      rw [ups_ap]
      by_cases h : i = n
      · rw [if_pos ⟨rfl, h, rfl⟩, if_pos h]
      · rw [if_neg (fun q => h q.2.1), if_neg h]; exact hf i (by omega)
    · rw [ups_ap, if_neg (fun q => h2 ⟨q.1, q.2.2⟩), ups_ap, if_neg (fun q => h2 ⟨q.1, q.2.2⟩)]
    · rw [ups_ap, if_neg (fun q => h1 q.1)]
    · rw [ups_ap, if_neg (fun q => h2 q.2.2)]
  · have hcn : c = n := by omega
    subst hcn
    by_cases hc0 : c = 0
    · subst hc0
      refine (l_add_10 (d := d + 2) hl0 htg hv).mpr (K _ _ _ _ _ _ t 10 ⟨?_, ?_, ?_, ?_, by omega, by omega, Or.inr ⟨by omega, ?_⟩, fun i hi => ?_⟩ ⟨fun b hb => ⟨by rw [jt_set, if_neg (by omega)], by rw [jn_set, if_neg (by omega)]⟩, fun κ k b h1 h2 => ?_, fun κ k b h1 => ?_, fun κ k b h1 h2 => ?_, fun k b h1 h2 => ?_⟩ (by omega) (by omega) (by omega) (by omega) (by omega) (Or.inr (Nat.le_refl _)) (fun b κ hb => ?_))
      · rw [jt_set, if_neg (by omega)]; exact ha
      · rw [ups_ap, if_neg (fun q => absurd q.1 (by decide)), ups_ap, if_pos ⟨rfl, rfl, rfl⟩]
      · rw [ups_ap, if_pos ⟨rfl, rfl, rfl⟩]
      · rw [jn_set, if_pos rfl]
      · rw [jt_set, if_pos rfl]
      · have : i = 0 := by omega
        subst this
        rw [ups_ap, if_pos ⟨rfl, rfl, rfl⟩]
        rfl
      · rw [ups_ap, if_neg (fun q => h2 ⟨q.1, q.2.2⟩), upc_ap, if_neg (fun q => h1 q.1), ups_ap, if_neg (fun q => h2 ⟨q.1, q.2.2⟩)]
      · rw [upc_ap, if_neg (fun q => h1 q.1)]
      · rw [ups_ap, if_neg (fun q => h1 q.1), ups_ap, if_neg (fun q => h2 ⟨q.1, q.2.2⟩), upc_ap, if_neg (fun q => h1 q.1)]
      · rw [ups_ap, if_neg (fun q => by omega), ups_ap, if_neg (fun q => absurd q.1 (by decide)), upc_ap, if_neg (fun q => by omega)]
      · rw [jt_set] at hb
        by_cases h : b = t
        · omega
        · rw [if_neg h] at hb
          have := htg _ _ hb
          omega
    · have h10 : 10 ≤ c := by
        rcases hk with ⟨h1, -⟩ | ⟨h1, -⟩
        · omega
        · exact h1
      have h53 : jt g e = some 53 := by
        rcases hk with ⟨h0, -⟩ | ⟨-, h⟩
        · omega
        · exact h
      have het : e < t := htg _ _ h53
      have hjo : ∀ i, i < c → jok g (P 53 i e) := fun i hi y hy => by
        rw [hf i hi] at hy
        cases hy
        exact hel i hi
      refine (l_add_up (d := d) hs1 hl0 h10 (by omega) htg hjo hv).mpr (K _ _ _ _ _ _ t (c + c / 2) ⟨?_, ?_, ?_, ?_, by omega, by omega, Or.inr ⟨by omega, ?_⟩, fun i hi => ?_⟩ ⟨fun b hb => ⟨by rw [jt_set, if_neg (by omega)], by rw [jn_set, if_neg (by omega)]⟩, fun κ k b h1 h2 => ?_, fun κ k b h1 => ?_, fun κ k b h1 h2 => ?_, fun k b h1 h2 => ?_⟩ (by omega) (by omega) (by omega) (by omega) (by omega) (Or.inr (Nat.le_refl _)) (fun b κ hb => ?_))
      · rw [jt_set, if_neg (by omega)]; exact ha
      · rw [ups_ap, if_neg (fun q => absurd q.1 (by decide)), ups_ap, if_pos ⟨rfl, rfl, rfl⟩]
      · rw [ups_ap, if_pos ⟨rfl, rfl, rfl⟩]
      · rw [jn_set, if_pos rfl]
      · rw [jt_set, if_pos rfl]
      · show _ = some (if i = c then v else f i)
        rw [ups_ap]
        by_cases h : i = c
        · rw [if_pos ⟨rfl, h, rfl⟩, if_pos h]
        · rw [if_neg (fun q => h q.2.1), if_neg h, ups_ap, if_neg (fun q => absurd q.1 (by decide)), upc_ap, if_pos ⟨rfl, rfl⟩]
          unfold va_cpy
          rw [if_pos ⟨by omega, by omega⟩]
          show P 53 (0 + (i - 0)) e = _
          rw [Nat.zero_add, Nat.sub_zero]
          exact hf i (by omega)
      · rw [ups_ap, if_neg (fun q => h2 ⟨q.1, q.2.2⟩), upc_ap, if_neg (fun q => h1 q.1), ups_ap, if_neg (fun q => h2 ⟨q.1, q.2.2⟩)]
      · rw [upc_ap, if_neg (fun q => h1 q.1)]
      · rw [ups_ap, if_neg (fun q => h1 q.1), ups_ap, if_neg (fun q => h2 ⟨q.1, q.2.2⟩), upc_ap, if_neg (fun q => h1 q.1), upc_ap, if_neg (fun q => h1 q.1)]
      · rw [ups_ap, if_neg (fun q => by omega), ups_ap, if_neg (fun q => absurd q.1 (by decide)), upc_ap, if_neg (fun q => by omega), upc_ap, if_neg (fun q => by omega)]
      · rw [jt_set] at hb
        by_cases h : b = t
        · omega
        · rw [if_neg h] at hb
          have := htg _ _ hb
          omega
end
