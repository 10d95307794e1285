-- ===== the reference's memory: an overlay of its object and its arrays =====
theorem tl_some (v : Value) (st : List Value) : (some v).toList ++ st = v :: st := rfl
theorem tl_none (st : List Value) : (none : Option Value).toList ++ st = st := rfl
theorem jv_none : jw none = true := Eq.trans jw_none rfl
theorem jv_int (x : Int32) : jw (some (.int x)) = true := Eq.trans (jw_int x) rfl
theorem jv_ref (x : Nat) : jw (some (.ref x)) = true := Eq.trans (jw_ref x) rfl
theorem jv_null : jw (some .null) = true := Eq.trans jw_null rfl
theorem cv_int (x : Int32) : (Value.int x).category = 1 := Eq.trans (cat_int x) rfl
theorem cv_ref (x : Nat) : (Value.ref x).category = 1 := Eq.trans (cat_ref x) rfl
theorem cv_null : Value.null.category = 1 := Eq.trans cat_null rfl
theorem cv_long (x : Int64) : (Value.long x).category = 2 := Eq.trans (cat_long x) rfl
theorem jcv_nil : jcat [] = 0 := Eq.trans jcat_nil rfl
theorem rf_some (b : Nat) : va_rf (some b) = .ref b := rfl
theorem rf_none : va_rf none = .null := rfl
theorem i1_0 : ((1 : Int32) = 0) = False := by decide
theorem i0_0 : ((0 : Int32) = 0) = True := by decide
def madr (m κ : Nat) : Nat := if κ = 7 then m else m + (κ - 63)
def ismk (κ : Nat) : Bool := κ == 7 || (decide (64 ≤ κ) && decide (κ ≤ 78))
def ovl (I : tI) (m : Nat) (A : Nat → Nat → Int32) : tI := fun κ k a => if ismk κ = true ∧ a = madr m κ then A κ k else I κ k a
def ovJ (J : tJ) (m : Nat) (T : Nat → Int64) : tJ := fun κ k a => if κ = 77 ∧ a = m + 14 then T k else J κ k a
def upA (A : Nat → Nat → Int32) (κ k : Nat) (v : Int32) : Nat → Nat → Int32 := fun κ' k' => if κ' = κ ∧ k' = k then v else A κ' k'
def upT (T : Nat → Int64) (k : Nat) (v : Int64) : Nat → Int64 := fun k' => if k' = k then v else T k'
theorem upA_ap (A : Nat → Nat → Int32) (κ k : Nat) (v : Int32) (κ' k' : Nat) : upA A κ k v κ' k' = if κ' = κ ∧ k' = k then v else A κ' k' := rfl
theorem upT_ap (T : Nat → Int64) (k : Nat) (v : Int64) (k' : Nat) : upT T k v k' = if k' = k then v else T k' := rfl
theorem ovl_r {I : tI} {m κ k : Nat} {A : Nat → Nat → Int32} (h : ismk κ = true) : ovl I m A κ k (madr m κ) = A κ k := if_pos ⟨h, rfl⟩
theorem ups_ovl {I : tI} {m κ k : Nat} {A : Nat → Nat → Int32} {v : Int32} (h : ismk κ = true) : ups (ovl I m A) κ k (madr m κ) v = ovl I m (upA A κ k v) := by
  funext κ' k' a'
  rw [ups_ap]
  unfold ovl
  rw [upA_ap]
  by_cases h1 : κ' = κ
  · subst h1
    by_cases h2 : a' = madr m κ'
    · by_cases h3 : k' = k
      · rw [if_pos ⟨rfl, h3, h2⟩, if_pos ⟨h, h2⟩, if_pos ⟨rfl, h3⟩]
      · rw [if_neg (fun z => h3 z.2.1), if_pos ⟨h, h2⟩, if_pos ⟨h, h2⟩, if_neg (fun z => h3 z.2)]
    · rw [if_neg (fun z => h2 z.2.2), if_neg (fun z => h2 z.2), if_neg (fun z => h2 z.2)]
  · rw [if_neg (fun z => h1 z.1), if_neg (c := κ' = κ ∧ k' = k) (fun z => h1 z.1)]
theorem ovJ_77 {J : tJ} {m k : Nat} {T : Nat → Int64} : ovJ J m T 77 k (m + 14) = T k := if_pos ⟨rfl, rfl⟩
theorem ups_ovJ_77 {J : tJ} {m k : Nat} {T : Nat → Int64} {v : Int64} : ups (ovJ J m T) 77 k (m + 14) v = ovJ J m (upT T k v) := by
  funext κ' k' a'
  rw [ups_ap]
  unfold ovJ
  rw [upT_ap]
  by_cases h1 : κ' = 77 ∧ a' = m + 14
  · by_cases h3 : k' = k
    · rw [if_pos ⟨h1.1, h3, h1.2⟩, if_pos h1, if_pos h3]
    · rw [if_neg (fun z => h3 z.2.1), if_pos h1, if_pos h1, if_neg h3]
  · rw [if_neg (fun z => h1 ⟨z.1, z.2.2⟩), if_neg h1, if_neg h1]
theorem ovl_7 {I : tI} {m k : Nat} {A : Nat → Nat → Int32} : ovl I m A 7 k m = A 7 k := ovl_r (κ := 7) rfl
theorem ups_ovl_7 {I : tI} {m k : Nat} {A : Nat → Nat → Int32} {v : Int32} : ups (ovl I m A) 7 k m v = ovl I m (upA A 7 k v) := ups_ovl (κ := 7) rfl
theorem ovl_64 {I : tI} {m k : Nat} {A : Nat → Nat → Int32} : ovl I m A 64 k (m + 1) = A 64 k := ovl_r (κ := 64) rfl
theorem ups_ovl_64 {I : tI} {m k : Nat} {A : Nat → Nat → Int32} {v : Int32} : ups (ovl I m A) 64 k (m + 1) v = ovl I m (upA A 64 k v) := ups_ovl (κ := 64) rfl
theorem ovl_65 {I : tI} {m k : Nat} {A : Nat → Nat → Int32} : ovl I m A 65 k (m + 2) = A 65 k := ovl_r (κ := 65) rfl
theorem ups_ovl_65 {I : tI} {m k : Nat} {A : Nat → Nat → Int32} {v : Int32} : ups (ovl I m A) 65 k (m + 2) v = ovl I m (upA A 65 k v) := ups_ovl (κ := 65) rfl
theorem ovl_66 {I : tI} {m k : Nat} {A : Nat → Nat → Int32} : ovl I m A 66 k (m + 3) = A 66 k := ovl_r (κ := 66) rfl
theorem ups_ovl_66 {I : tI} {m k : Nat} {A : Nat → Nat → Int32} {v : Int32} : ups (ovl I m A) 66 k (m + 3) v = ovl I m (upA A 66 k v) := ups_ovl (κ := 66) rfl
theorem ovl_67 {I : tI} {m k : Nat} {A : Nat → Nat → Int32} : ovl I m A 67 k (m + 4) = A 67 k := ovl_r (κ := 67) rfl
theorem ups_ovl_67 {I : tI} {m k : Nat} {A : Nat → Nat → Int32} {v : Int32} : ups (ovl I m A) 67 k (m + 4) v = ovl I m (upA A 67 k v) := ups_ovl (κ := 67) rfl
theorem ovl_68 {I : tI} {m k : Nat} {A : Nat → Nat → Int32} : ovl I m A 68 k (m + 5) = A 68 k := ovl_r (κ := 68) rfl
theorem ups_ovl_68 {I : tI} {m k : Nat} {A : Nat → Nat → Int32} {v : Int32} : ups (ovl I m A) 68 k (m + 5) v = ovl I m (upA A 68 k v) := ups_ovl (κ := 68) rfl
theorem ovl_69 {I : tI} {m k : Nat} {A : Nat → Nat → Int32} : ovl I m A 69 k (m + 6) = A 69 k := ovl_r (κ := 69) rfl
theorem ups_ovl_69 {I : tI} {m k : Nat} {A : Nat → Nat → Int32} {v : Int32} : ups (ovl I m A) 69 k (m + 6) v = ovl I m (upA A 69 k v) := ups_ovl (κ := 69) rfl
theorem ovl_70 {I : tI} {m k : Nat} {A : Nat → Nat → Int32} : ovl I m A 70 k (m + 7) = A 70 k := ovl_r (κ := 70) rfl
theorem ups_ovl_70 {I : tI} {m k : Nat} {A : Nat → Nat → Int32} {v : Int32} : ups (ovl I m A) 70 k (m + 7) v = ovl I m (upA A 70 k v) := ups_ovl (κ := 70) rfl
theorem ovl_71 {I : tI} {m k : Nat} {A : Nat → Nat → Int32} : ovl I m A 71 k (m + 8) = A 71 k := ovl_r (κ := 71) rfl
theorem ups_ovl_71 {I : tI} {m k : Nat} {A : Nat → Nat → Int32} {v : Int32} : ups (ovl I m A) 71 k (m + 8) v = ovl I m (upA A 71 k v) := ups_ovl (κ := 71) rfl
theorem ovl_72 {I : tI} {m k : Nat} {A : Nat → Nat → Int32} : ovl I m A 72 k (m + 9) = A 72 k := ovl_r (κ := 72) rfl
theorem ups_ovl_72 {I : tI} {m k : Nat} {A : Nat → Nat → Int32} {v : Int32} : ups (ovl I m A) 72 k (m + 9) v = ovl I m (upA A 72 k v) := ups_ovl (κ := 72) rfl
theorem ovl_73 {I : tI} {m k : Nat} {A : Nat → Nat → Int32} : ovl I m A 73 k (m + 10) = A 73 k := ovl_r (κ := 73) rfl
theorem ups_ovl_73 {I : tI} {m k : Nat} {A : Nat → Nat → Int32} {v : Int32} : ups (ovl I m A) 73 k (m + 10) v = ovl I m (upA A 73 k v) := ups_ovl (κ := 73) rfl
theorem ovl_74 {I : tI} {m k : Nat} {A : Nat → Nat → Int32} : ovl I m A 74 k (m + 11) = A 74 k := ovl_r (κ := 74) rfl
theorem ups_ovl_74 {I : tI} {m k : Nat} {A : Nat → Nat → Int32} {v : Int32} : ups (ovl I m A) 74 k (m + 11) v = ovl I m (upA A 74 k v) := ups_ovl (κ := 74) rfl
theorem ovl_75 {I : tI} {m k : Nat} {A : Nat → Nat → Int32} : ovl I m A 75 k (m + 12) = A 75 k := ovl_r (κ := 75) rfl
theorem ups_ovl_75 {I : tI} {m k : Nat} {A : Nat → Nat → Int32} {v : Int32} : ups (ovl I m A) 75 k (m + 12) v = ovl I m (upA A 75 k v) := ups_ovl (κ := 75) rfl
theorem ovl_76 {I : tI} {m k : Nat} {A : Nat → Nat → Int32} : ovl I m A 76 k (m + 13) = A 76 k := ovl_r (κ := 76) rfl
theorem ups_ovl_76 {I : tI} {m k : Nat} {A : Nat → Nat → Int32} {v : Int32} : ups (ovl I m A) 76 k (m + 13) v = ovl I m (upA A 76 k v) := ups_ovl (κ := 76) rfl
theorem ovl_78 {I : tI} {m k : Nat} {A : Nat → Nat → Int32} : ovl I m A 78 k (m + 15) = A 78 k := ovl_r (κ := 78) rfl
theorem ups_ovl_78 {I : tI} {m k : Nat} {A : Nat → Nat → Int32} {v : Int32} : ups (ovl I m A) 78 k (m + 15) v = ovl I m (upA A 78 k v) := ups_ovl (κ := 78) rfl
/-- where the reference lies -/
def MLay (g : jG) (P : tP) (m : Nat) : Prop := jt g m = some 7 ∧ P 7 7 m = some (m + 1) ∧ jt g (m + 1) = some 64 ∧ jn g (m + 1) = 6 ∧ P 7 8 m = some (m + 2) ∧ jt g (m + 2) = some 65 ∧ jn g (m + 2) = 6 ∧ P 7 9 m = some (m + 3) ∧ jt g (m + 3) = some 66 ∧ jn g (m + 3) = 21 ∧ P 7 10 m = some (m + 4) ∧ jt g (m + 4) = some 67 ∧ jn g (m + 4) = 21 ∧ P 7 11 m = some (m + 5) ∧ jt g (m + 5) = some 68 ∧ jn g (m + 5) = 21 ∧ P 7 12 m = some (m + 6) ∧ jt g (m + 6) = some 69 ∧ jn g (m + 6) = 210 ∧ P 7 13 m = some (m + 7) ∧ jt g (m + 7) = some 70 ∧ jn g (m + 7) = 21 ∧ P 7 14 m = some (m + 8) ∧ jt g (m + 8) = some 71 ∧ jn g (m + 8) = 21 ∧ P 7 15 m = some (m + 9) ∧ jt g (m + 9) = some 72 ∧ jn g (m + 9) = 21 ∧ P 7 16 m = some (m + 10) ∧ jt g (m + 10) = some 73 ∧ jn g (m + 10) = 21 ∧ P 7 17 m = some (m + 11) ∧ jt g (m + 11) = some 74 ∧ jn g (m + 11) = 21 ∧ P 7 18 m = some (m + 12) ∧ jt g (m + 12) = some 75 ∧ jn g (m + 12) = 21 ∧ P 7 19 m = some (m + 13) ∧ jt g (m + 13) = some 76 ∧ jn g (m + 13) = 21 ∧ P 7 20 m = some (m + 14) ∧ jt g (m + 14) = some 77 ∧ jn g (m + 14) = 21 ∧ P 7 27 m = some (m + 15) ∧ jt g (m + 15) = some 78 ∧ jn g (m + 15) = 500000
-- ===== numbers =====
theorem nIs (n : Nat) : nI n + 1 = nI (n + 1) := nI_add n 1
theorem nI_mul (a b : Nat) : nI a * nI b = nI (a * b) := (Int32.ofNat_mul a b).symm
theorem jin_nI {i n : Nat} (h : i < n) (hn : i < 2 ^ 31) : jin (nI i) n = true := by
  unfold jin
  rw [nI_clamp hn]
  have h0 : ¬ nI i < 0 := nI_nlt (b := 0) (Nat.zero_le i) hn
  simp [h0, h]
theorem i32_lt {a b : Int32} : a < b ↔ a.toInt < b.toInt := Int32.lt_iff_toInt_lt
theorem i32_pos {x : Int32} (h : 0 < x) : 0 < x.toInt := by
  have := i32_lt.mp h
  simpa using this
theorem clamp_pos {x : Int32} (h : ¬ x < 0) : (x.toNatClampNeg : Int) = x.toInt := by
  have h1 : ¬ x.toInt < 0 := fun z => h (i32_lt.mpr (by simpa using z))
  show ((x.toInt.toNat : Nat) : Int) = x.toInt
  omega
theorem nIo {x : Int32} (h : ¬ x < 0) : x = nI x.toNatClampNeg := by
  have h1 := clamp_pos h
  have h2 : x.toNatClampNeg < 2 ^ 31 := by
    have := Int32.toInt_lt x
    omega
  apply Int32.toInt_inj.mp
  rw [nI_toInt h2, h1]
theorem i32_neg {x : Int32} (h : 0 < x) : ¬ x < 0 := fun z => by
  have h1 := i32_lt.mp h
  have h2 := i32_lt.mp z
  omega
/-- a number from 1 to n -/
theorem nI_range {x : Int32} {n : Nat} (h : 0 < x) (h2 : ¬ nI n < x) (hn : n < 2 ^ 31) : 1 ≤ x.toNatClampNeg ∧ x.toNatClampNeg ≤ n := by
  have h1 := clamp_pos (i32_neg h)
  have h3 := i32_pos h
  have h4 : ¬ (n : Int) < x.toInt := fun z => h2 (i32_lt.mpr (by rw [nI_toInt hn]; exact z))
  omega
theorem jin_range {x : Int32} {n k : Nat} (h : 0 < x) (h2 : ¬ nI n < x) (hn : n < 2 ^ 31) (hk : n < k) : jin x k = true := by
  have h3 := nI_range h h2 hn
  unfold jin
  have h4 := i32_neg h
  have h5 : x.toNatClampNeg < k := by omega
  simp [h4, h5]
-- ===== the reference's methods =====
section
variable {sv : Nat → Value} {d t u ng ns nc : Nat} {Q : Option Value → jM → Prop} {g : jG} {I : tI} {J : tJ} {P : tP} {A : Nat → Nat → Int32} {T : Nat → Int64} {m : Nat} {x y z : Int32}
theorem m_held {M : jM} : Ev sv d (53, 0, [some (.int x), some (.int y), some (.int z)], []) M Q ↔ Q (some (.int (if x < y then y else if z < x then z else x))) M := by
  simp only [s_X5_held_0, s_X5_held_1, s_X5_held_2, s_X5_held_5, s_X5_held_6, s_X5_held_9, s_X5_held_10, s_X5_held_11, s_X5_held_14, s_X5_held_15, s_X5_held_18, s_X5_held_19, tl_some, tl_none, cv_int, cv_ref, cv_null, cv_long, cat_rf, jcv_nil, jcat_cons, jv_none, jv_int, jv_ref, jv_null, jw_rf, rf_some, rf_none, bz_0, bz_1, i1_0, i0_0, if_true, if_false, ite_self, List.nil_append, List.cons_append, Nat.reduceAdd, Nat.reduceLeDiff, Nat.zero_le, Nat.le_refl, and_self, and_true, true_and, not_true_eq_false, not_false_eq_true, reduceIte]
  by_cases h1 : x < y
  · simp only [h1, if_true]
  · by_cases h2 : z < x
    · simp only [h1, h2, if_true, if_false]
    · simp only [h1, h2, if_false]
abbrev isG (A : Nat → Nat → Int32) (x : Int32) : Prop := 0 < x ∧ ¬ A 7 5 < x
theorem m_isGroup (hL : MLay g P m) : Ev sv d (55, 0, [some (.ref m), some (.int x)], []) (tv t u g (ovl I m A) J P) Q ↔ if isG A x then Q (some (.int 1)) (tv t u g (ovl I m A) J P) else Q (some (.int 0)) (tv t u g (ovl I m A) J P) := by
  obtain ⟨hm, p64, t64, n64, p65, t65, n65, p66, t66, n66, p67, t67, n67, p68, t68, n68, p69, t69, n69, p70, t70, n70, p71, t71, n71, p72, t72, n72, p73, t73, n73, p74, t74, n74, p75, t75, n75, p76, t76, n76, p77, t77, n77, p78, t78, n78⟩ := hL
  simp only [s_X5_isGroup_0, s_X5_isGroup_1, s_X5_isGroup_4, s_X5_isGroup_5, s_X5_isGroup_5n, s_X5_isGroup_5z, s_X5_isGroup_6, s_X5_isGroup_9, s_X5_isGroup_12, s_X5_isGroup_13, s_X5_isGroup_16, s_X5_isGroup_17, tl_some, tl_none, cv_int, cv_ref, cv_null, cv_long, cat_rf, jcv_nil, jcat_cons, jv_none, jv_int, jv_ref, jv_null, jw_rf, rf_some, rf_none, bz_0, bz_1, i1_0, i0_0, if_true, if_false, ite_self, List.nil_append, List.cons_append, Nat.reduceAdd, Nat.reduceLeDiff, Nat.zero_le, Nat.le_refl, and_self, and_true, true_and, not_true_eq_false, not_false_eq_true, reduceIte, hm, p64, t64, n64, p65, t65, n65, p66, t66, n66, p67, t67, n67, p68, t68, n68, p69, t69, n69, p70, t70, n70, p71, t71, n71, p72, t72, n72, p73, t73, n73, p74, t74, n74, p75, t75, n75, p76, t76, n76, p77, t77, n77, p78, t78, n78, ovl_7, ups_ovl_7, ovl_64, ups_ovl_64, ovl_65, ups_ovl_65, ovl_66, ups_ovl_66, ovl_67, ups_ovl_67, ovl_68, ups_ovl_68, ovl_69, ups_ovl_69, ovl_70, ups_ovl_70, ovl_71, ups_ovl_71, ovl_72, ups_ovl_72, ovl_73, ups_ovl_73, ovl_74, ups_ovl_74, ovl_75, ups_ovl_75, ovl_76, ups_ovl_76, ovl_78, ups_ovl_78, ovJ_77, ups_ovJ_77]
  by_cases h1 : 0 < x <;> by_cases h2 : A 7 5 < x <;> simp [h1, h2, isG]
abbrev isD (A : Nat → Nat → Int32) (x : Int32) : Prop := isG A x ∧ A 66 x.toNatClampNeg = 3
theorem m_isDetail (hL : MLay g P m) (hng : A 7 5 = nI ng) (h20 : ng ≤ 20) : Ev sv (d + 1) (56, 0, [some (.ref m), some (.int x)], []) (tv t u g (ovl I m A) J P) Q ↔ if isD A x then Q (some (.int 1)) (tv t u g (ovl I m A) J P) else Q (some (.int 0)) (tv t u g (ovl I m A) J P) := by
  have hL0 := hL
  obtain ⟨hm, p64, t64, n64, p65, t65, n65, p66, t66, n66, p67, t67, n67, p68, t68, n68, p69, t69, n69, p70, t70, n70, p71, t71, n71, p72, t72, n72, p73, t73, n73, p74, t74, n74, p75, t75, n75, p76, t76, n76, p77, t77, n77, p78, t78, n78⟩ := hL
  by_cases hx : isG A x
  · have hj : jin x 21 = true := jin_range hx.1 (by rw [← hng]; exact hx.2) (by omega) (by omega)
    simp only [s_X5_isDetail_0, s_X5_isDetail_0n, s_X5_isDetail_0z, s_X5_isDetail_1, s_X5_isDetail_2, s_X5_isDetail_5, s_X5_isDetail_8, s_X5_isDetail_8n, s_X5_isDetail_8z, s_X5_isDetail_9, s_X5_isDetail_12, s_X5_isDetail_13, s_X5_isDetail_14, s_X5_isDetail_15, s_X5_isDetail_18, s_X5_isDetail_19, s_X5_isDetail_22, s_X5_isDetail_23, tl_some, tl_none, cv_int, cv_ref, cv_null, cv_long, cat_rf, jcv_nil, jcat_cons, jv_none, jv_int, jv_ref, jv_null, jw_rf, rf_some, rf_none, bz_0, bz_1, i1_0, i0_0, if_true, if_false, ite_self, List.nil_append, List.cons_append, Nat.reduceAdd, Nat.reduceLeDiff, Nat.zero_le, Nat.le_refl, and_self, and_true, true_and, not_true_eq_false, not_false_eq_true, reduceIte, hm, p64, t64, n64, p65, t65, n65, p66, t66, n66, p67, t67, n67, p68, t68, n68, p69, t69, n69, p70, t70, n70, p71, t71, n71, p72, t72, n72, p73, t73, n73, p74, t74, n74, p75, t75, n75, p76, t76, n76, p77, t77, n77, p78, t78, n78, ovl_7, ups_ovl_7, ovl_64, ups_ovl_64, ovl_65, ups_ovl_65, ovl_66, ups_ovl_66, ovl_67, ups_ovl_67, ovl_68, ups_ovl_68, ovl_69, ups_ovl_69, ovl_70, ups_ovl_70, ovl_71, ups_ovl_71, ovl_72, ups_ovl_72, ovl_73, ups_ovl_73, ovl_74, ups_ovl_74, ovl_75, ups_ovl_75, ovl_76, ups_ovl_76, ovl_78, ups_ovl_78, ovJ_77, ups_ovJ_77, m_isGroup hL0, hx, hj]
    by_cases h3 : A 66 x.toNatClampNeg = 3 <;> simp [h3, hx, isD]
  · simp only [s_X5_isDetail_0, s_X5_isDetail_0n, s_X5_isDetail_0z, s_X5_isDetail_1, s_X5_isDetail_2, s_X5_isDetail_5, s_X5_isDetail_8, s_X5_isDetail_8n, s_X5_isDetail_8z, s_X5_isDetail_9, s_X5_isDetail_12, s_X5_isDetail_13, s_X5_isDetail_14, s_X5_isDetail_15, s_X5_isDetail_18, s_X5_isDetail_19, s_X5_isDetail_22, s_X5_isDetail_23, tl_some, tl_none, cv_int, cv_ref, cv_null, cv_long, cat_rf, jcv_nil, jcat_cons, jv_none, jv_int, jv_ref, jv_null, jw_rf, rf_some, rf_none, bz_0, bz_1, i1_0, i0_0, if_true, if_false, ite_self, List.nil_append, List.cons_append, Nat.reduceAdd, Nat.reduceLeDiff, Nat.zero_le, Nat.le_refl, and_self, and_true, true_and, not_true_eq_false, not_false_eq_true, reduceIte, hm, p64, t64, n64, p65, t65, n65, p66, t66, n66, p67, t67, n67, p68, t68, n68, p69, t69, n69, p70, t70, n70, p71, t71, n71, p72, t72, n72, p73, t73, n73, p74, t74, n74, p75, t75, n75, p76, t76, n76, p77, t77, n77, p78, t78, n78, ovl_7, ups_ovl_7, ovl_64, ups_ovl_64, ovl_65, ups_ovl_65, ovl_66, ups_ovl_66, ovl_67, ups_ovl_67, ovl_68, ups_ovl_68, ovl_69, ups_ovl_69, ovl_70, ups_ovl_70, ovl_71, ups_ovl_71, ovl_72, ups_ovl_72, ovl_73, ups_ovl_73, ovl_74, ups_ovl_74, ovl_75, ups_ovl_75, ovl_76, ups_ovl_76, ovl_78, ups_ovl_78, ovJ_77, ups_ovJ_77, m_isGroup hL0, hx]
    simp [isD, hx]
/-- the last group of a kind and level, 0 if there is none -/
def fnd (A : Nat → Nat → Int32) (kd lv : Int32) : Nat → Int32
  | 0 => 0
  | n + 1 => if A 66 (n + 1) = kd ∧ A 67 (n + 1) = lv then nI (n + 1) else fnd A kd lv n
theorem m_find_loop (hL : MLay g P m) (hng : A 7 5 = nI ng) (h20 : ng ≤ 20) (kd lv : Int32) : ∀ n i, i + n = ng → (Ev sv d (57, 5, [some (.ref m), some (.int kd), some (.int lv), some (.int (fnd A kd lv i)), some (.int (nI (i + 1)))], []) (tv t u g (ovl I m A) J P) Q ↔ Q (some (.int (fnd A kd lv ng))) (tv t u g (ovl I m A) J P)) := by
  obtain ⟨hm, p64, t64, n64, p65, t65, n65, p66, t66, n66, p67, t67, n67, p68, t68, n68, p69, t69, n69, p70, t70, n70, p71, t71, n71, p72, t72, n72, p73, t73, n73, p74, t74, n74, p75, t75, n75, p76, t76, n76, p77, t77, n77, p78, t78, n78⟩ := hL
  intro n
  induction n with
  | zero =>
    intro i hi
    have e : i = ng := by omega
    subst e
    have h1 : nI i < nI (i + 1) := nI_lt (by omega) (by omega)
    refine s_X5_find_5.trans ?_
    simp only [s_X5_find_0, s_X5_find_1, s_X5_find_2, s_X5_find_3, s_X5_find_7, s_X5_find_7n, s_X5_find_7z, s_X5_find_8, s_X5_find_11, s_X5_find_14, s_X5_find_14n, s_X5_find_14z, s_X5_find_15, s_X5_find_18, s_X5_find_20, s_X5_find_21, s_X5_find_22, s_X5_find_25, s_X5_find_25n, s_X5_find_25z, s_X5_find_26, s_X5_find_29, s_X5_find_31, s_X5_find_32, s_X5_find_33, s_X5_find_36, s_X5_find_38, s_X5_find_41, s_X5_find_42, s_X5_find_43, s_X5_find_46, s_X5_find_49, s_X5_find_50, tl_some, tl_none, cv_int, cv_ref, cv_null, cv_long, cat_rf, jcv_nil, jcat_cons, jv_none, jv_int, jv_ref, jv_null, jw_rf, rf_some, rf_none, bz_0, bz_1, i1_0, i0_0, if_true, if_false, ite_self, List.nil_append, List.cons_append, Nat.reduceAdd, Nat.reduceLeDiff, Nat.zero_le, Nat.le_refl, and_self, and_true, true_and, not_true_eq_false, not_false_eq_true, reduceIte, hm, p64, t64, n64, p65, t65, n65, p66, t66, n66, p67, t67, n67, p68, t68, n68, p69, t69, n69, p70, t70, n70, p71, t71, n71, p72, t72, n72, p73, t73, n73, p74, t74, n74, p75, t75, n75, p76, t76, n76, p77, t77, n77, p78, t78, n78, ovl_7, ups_ovl_7, ovl_64, ups_ovl_64, ovl_65, ups_ovl_65, ovl_66, ups_ovl_66, ovl_67, ups_ovl_67, ovl_68, ups_ovl_68, ovl_69, ups_ovl_69, ovl_70, ups_ovl_70, ovl_71, ups_ovl_71, ovl_72, ups_ovl_72, ovl_73, ups_ovl_73, ovl_74, ups_ovl_74, ovl_75, ups_ovl_75, ovl_76, ups_ovl_76, ovl_78, ups_ovl_78, ovJ_77, ups_ovJ_77, hng, h1]
  | succ n ih =>
    intro i hi
    have h1 : ¬ nI ng < nI (i + 1) := nI_nlt (by omega) (by omega)
    have hj : jin (nI (i + 1)) 21 = true := jin_nI (by omega) (by omega)
    have hc : (nI (i + 1)).toNatClampNeg = i + 1 := nI_clamp (by omega)
    have hs := nIs (i + 1)
    refine Iff.trans ?_ (ih (i + 1) (by omega))
    refine s_X5_find_5.trans ?_
    by_cases c1 : A 66 (i + 1) = kd
    · by_cases c2 : A 67 (i + 1) = lv
      · have e : fnd A kd lv (i + 1) = nI (i + 1) := if_pos ⟨c1, c2⟩
        simp only [s_X5_find_0, s_X5_find_1, s_X5_find_2, s_X5_find_3, s_X5_find_7, s_X5_find_7n, s_X5_find_7z, s_X5_find_8, s_X5_find_11, s_X5_find_14, s_X5_find_14n, s_X5_find_14z, s_X5_find_15, s_X5_find_18, s_X5_find_20, s_X5_find_21, s_X5_find_22, s_X5_find_25, s_X5_find_25n, s_X5_find_25z, s_X5_find_26, s_X5_find_29, s_X5_find_31, s_X5_find_32, s_X5_find_33, s_X5_find_36, s_X5_find_38, s_X5_find_41, s_X5_find_42, s_X5_find_43, s_X5_find_46, s_X5_find_49, s_X5_find_50, tl_some, tl_none, cv_int, cv_ref, cv_null, cv_long, cat_rf, jcv_nil, jcat_cons, jv_none, jv_int, jv_ref, jv_null, jw_rf, rf_some, rf_none, bz_0, bz_1, i1_0, i0_0, if_true, if_false, ite_self, List.nil_append, List.cons_append, Nat.reduceAdd, Nat.reduceLeDiff, Nat.zero_le, Nat.le_refl, and_self, and_true, true_and, not_true_eq_false, not_false_eq_true, reduceIte, hm, p64, t64, n64, p65, t65, n65, p66, t66, n66, p67, t67, n67, p68, t68, n68, p69, t69, n69, p70, t70, n70, p71, t71, n71, p72, t72, n72, p73, t73, n73, p74, t74, n74, p75, t75, n75, p76, t76, n76, p77, t77, n77, p78, t78, n78, ovl_7, ups_ovl_7, ovl_64, ups_ovl_64, ovl_65, ups_ovl_65, ovl_66, ups_ovl_66, ovl_67, ups_ovl_67, ovl_68, ups_ovl_68, ovl_69, ups_ovl_69, ovl_70, ups_ovl_70, ovl_71, ups_ovl_71, ovl_72, ups_ovl_72, ovl_73, ups_ovl_73, ovl_74, ups_ovl_74, ovl_75, ups_ovl_75, ovl_76, ups_ovl_76, ovl_78, ups_ovl_78, ovJ_77, ups_ovJ_77, hng, h1, hj, hc, hs, c1, c2, e]
      · have e : fnd A kd lv (i + 1) = fnd A kd lv i := if_neg (fun z => c2 z.2)
        simp only [s_X5_find_0, s_X5_find_1, s_X5_find_2, s_X5_find_3, s_X5_find_7, s_X5_find_7n, s_X5_find_7z, s_X5_find_8, s_X5_find_11, s_X5_find_14, s_X5_find_14n, s_X5_find_14z, s_X5_find_15, s_X5_find_18, s_X5_find_20, s_X5_find_21, s_X5_find_22, s_X5_find_25, s_X5_find_25n, s_X5_find_25z, s_X5_find_26, s_X5_find_29, s_X5_find_31, s_X5_find_32, s_X5_find_33, s_X5_find_36, s_X5_find_38, s_X5_find_41, s_X5_find_42, s_X5_find_43, s_X5_find_46, s_X5_find_49, s_X5_find_50, tl_some, tl_none, cv_int, cv_ref, cv_null, cv_long, cat_rf, jcv_nil, jcat_cons, jv_none, jv_int, jv_ref, jv_null, jw_rf, rf_some, rf_none, bz_0, bz_1, i1_0, i0_0, if_true, if_false, ite_self, List.nil_append, List.cons_append, Nat.reduceAdd, Nat.reduceLeDiff, Nat.zero_le, Nat.le_refl, and_self, and_true, true_and, not_true_eq_false, not_false_eq_true, reduceIte, hm, p64, t64, n64, p65, t65, n65, p66, t66, n66, p67, t67, n67, p68, t68, n68, p69, t69, n69, p70, t70, n70, p71, t71, n71, p72, t72, n72, p73, t73, n73, p74, t74, n74, p75, t75, n75, p76, t76, n76, p77, t77, n77, p78, t78, n78, ovl_7, ups_ovl_7, ovl_64, ups_ovl_64, ovl_65, ups_ovl_65, ovl_66, ups_ovl_66, ovl_67, ups_ovl_67, ovl_68, ups_ovl_68, ovl_69, ups_ovl_69, ovl_70, ups_ovl_70, ovl_71, ups_ovl_71, ovl_72, ups_ovl_72, ovl_73, ups_ovl_73, ovl_74, ups_ovl_74, ovl_75, ups_ovl_75, ovl_76, ups_ovl_76, ovl_78, ups_ovl_78, ovJ_77, ups_ovJ_77, hng, h1, hj, hc, hs, c1, c2, e]
    · have e : fnd A kd lv (i + 1) = fnd A kd lv i := if_neg (fun z => c1 z.1)
      simp only [s_X5_find_0, s_X5_find_1, s_X5_find_2, s_X5_find_3, s_X5_find_7, s_X5_find_7n, s_X5_find_7z, s_X5_find_8, s_X5_find_11, s_X5_find_14, s_X5_find_14n, s_X5_find_14z, s_X5_find_15, s_X5_find_18, s_X5_find_20, s_X5_find_21, s_X5_find_22, s_X5_find_25, s_X5_find_25n, s_X5_find_25z, s_X5_find_26, s_X5_find_29, s_X5_find_31, s_X5_find_32, s_X5_find_33, s_X5_find_36, s_X5_find_38, s_X5_find_41, s_X5_find_42, s_X5_find_43, s_X5_find_46, s_X5_find_49, s_X5_find_50, tl_some, tl_none, cv_int, cv_ref, cv_null, cv_long, cat_rf, jcv_nil, jcat_cons, jv_none, jv_int, jv_ref, jv_null, jw_rf, rf_some, rf_none, bz_0, bz_1, i1_0, i0_0, if_true, if_false, ite_self, List.nil_append, List.cons_append, Nat.reduceAdd, Nat.reduceLeDiff, Nat.zero_le, Nat.le_refl, and_self, and_true, true_and, not_true_eq_false, not_false_eq_true, reduceIte, hm, p64, t64, n64, p65, t65, n65, p66, t66, n66, p67, t67, n67, p68, t68, n68, p69, t69, n69, p70, t70, n70, p71, t71, n71, p72, t72, n72, p73, t73, n73, p74, t74, n74, p75, t75, n75, p76, t76, n76, p77, t77, n77, p78, t78, n78, ovl_7, ups_ovl_7, ovl_64, ups_ovl_64, ovl_65, ups_ovl_65, ovl_66, ups_ovl_66, ovl_67, ups_ovl_67, ovl_68, ups_ovl_68, ovl_69, ups_ovl_69, ovl_70, ups_ovl_70, ovl_71, ups_ovl_71, ovl_72, ups_ovl_72, ovl_73, ups_ovl_73, ovl_74, ups_ovl_74, ovl_75, ups_ovl_75, ovl_76, ups_ovl_76, ovl_78, ups_ovl_78, ovJ_77, ups_ovJ_77, hng, h1, hj, hc, hs, c1, e]
theorem m_find (hL : MLay g P m) (hng : A 7 5 = nI ng) (h20 : ng ≤ 20) {kd lv : Int32} : Ev sv d (57, 0, [some (.ref m), some (.int kd), some (.int lv), none, none], []) (tv t u g (ovl I m A) J P) Q ↔ Q (some (.int (fnd A kd lv ng))) (tv t u g (ovl I m A) J P) := by
  simp only [s_X5_find_0, s_X5_find_1, s_X5_find_2, s_X5_find_3, s_X5_find_7, s_X5_find_7n, s_X5_find_7z, s_X5_find_8, s_X5_find_11, s_X5_find_14, s_X5_find_14n, s_X5_find_14z, s_X5_find_15, s_X5_find_18, s_X5_find_20, s_X5_find_21, s_X5_find_22, s_X5_find_25, s_X5_find_25n, s_X5_find_25z, s_X5_find_26, s_X5_find_29, s_X5_find_31, s_X5_find_32, s_X5_find_33, s_X5_find_36, s_X5_find_38, s_X5_find_41, s_X5_find_42, s_X5_find_43, s_X5_find_46, s_X5_find_49, s_X5_find_50, tl_some, tl_none, cv_int, cv_ref, cv_null, cv_long, cat_rf, jcv_nil, jcat_cons, jv_none, jv_int, jv_ref, jv_null, jw_rf, rf_some, rf_none, bz_0, bz_1, i1_0, i0_0, if_true, if_false, ite_self, List.nil_append, List.cons_append, Nat.reduceAdd, Nat.reduceLeDiff, Nat.zero_le, Nat.le_refl, and_self, and_true, true_and, not_true_eq_false, not_false_eq_true, reduceIte]
  exact m_find_loop hL hng h20 kd lv ng 0 (by omega)
/-- suppression used up, and whether it prints -/
abbrev isO (A : Nat → Nat → Int32) (x : Int32) : Prop := A 71 x.toNatClampNeg = 0 ∧ 0 < A 68 x.toNatClampNeg
theorem m_isOn0 (hL : MLay g P m) : Ev sv d (68, 0, [some (.ref m), some (.int 0), none], []) (tv t u g (ovl I m A) J P) Q ↔ Q (some (.int 0)) (tv t u g (ovl I m A) J P) := by
  simp only [s_X5_isOn_0, s_X5_isOn_1, s_X5_isOn_4, s_X5_isOn_5, s_X5_isOn_6, s_X5_isOn_6n, s_X5_isOn_6z, s_X5_isOn_7, s_X5_isOn_10, s_X5_isOn_11, s_X5_isOn_12, s_X5_isOn_13, s_X5_isOn_13n, s_X5_isOn_13z, s_X5_isOn_14, s_X5_isOn_17, s_X5_isOn_18, s_X5_isOn_19, s_X5_isOn_20, s_X5_isOn_21, s_X5_isOn_24, s_X5_isOn_24n, s_X5_isOn_24z, s_X5_isOn_25, s_X5_isOn_28, s_X5_isOn_29, s_X5_isOn_30, s_X5_isOn_33, s_X5_isOn_34, s_X5_isOn_37, s_X5_isOn_38, tl_some, tl_none, cv_int, cv_ref, cv_null, cv_long, cat_rf, jcv_nil, jcat_cons, jv_none, jv_int, jv_ref, jv_null, jw_rf, rf_some, rf_none, bz_0, bz_1, i1_0, i0_0, if_true, if_false, ite_self, List.nil_append, List.cons_append, Nat.reduceAdd, Nat.reduceLeDiff, Nat.zero_le, Nat.le_refl, and_self, and_true, true_and, not_true_eq_false, not_false_eq_true, reduceIte]
theorem m_isOn (hL : MLay g P m) (hx : isG A x) (hng : A 7 5 = nI ng) (h20 : ng ≤ 20) : Ev sv d (68, 0, [some (.ref m), some (.int x), none], []) (tv t u g (ovl I m A) J P) Q ↔ if isO A x then Q (some (.int 1)) (tv t u g (ovl I m (upA A 71 x.toNatClampNeg 0)) J P) else Q (some (.int 0)) (tv t u g (ovl I m (upA A 71 x.toNatClampNeg 0)) J P) := by
  obtain ⟨hm, p64, t64, n64, p65, t65, n65, p66, t66, n66, p67, t67, n67, p68, t68, n68, p69, t69, n69, p70, t70, n70, p71, t71, n71, p72, t72, n72, p73, t73, n73, p74, t74, n74, p75, t75, n75, p76, t76, n76, p77, t77, n77, p78, t78, n78⟩ := hL
  have hj : jin x 21 = true := jin_range hx.1 (by rw [← hng]; exact hx.2) (by omega) (by omega)
  have h0 : ¬ x = 0 := fun z => absurd hx.1 (by rw [z]; decide)
  have e68 : upA A 71 x.toNatClampNeg 0 68 x.toNatClampNeg = A 68 x.toNatClampNeg := rfl
  simp only [s_X5_isOn_0, s_X5_isOn_1, s_X5_isOn_4, s_X5_isOn_5, s_X5_isOn_6, s_X5_isOn_6n, s_X5_isOn_6z, s_X5_isOn_7, s_X5_isOn_10, s_X5_isOn_11, s_X5_isOn_12, s_X5_isOn_13, s_X5_isOn_13n, s_X5_isOn_13z, s_X5_isOn_14, s_X5_isOn_17, s_X5_isOn_18, s_X5_isOn_19, s_X5_isOn_20, s_X5_isOn_21, s_X5_isOn_24, s_X5_isOn_24n, s_X5_isOn_24z, s_X5_isOn_25, s_X5_isOn_28, s_X5_isOn_29, s_X5_isOn_30, s_X5_isOn_33, s_X5_isOn_34, s_X5_isOn_37, s_X5_isOn_38, tl_some, tl_none, cv_int, cv_ref, cv_null, cv_long, cat_rf, jcv_nil, jcat_cons, jv_none, jv_int, jv_ref, jv_null, jw_rf, rf_some, rf_none, bz_0, bz_1, i1_0, i0_0, if_true, if_false, ite_self, List.nil_append, List.cons_append, Nat.reduceAdd, Nat.reduceLeDiff, Nat.zero_le, Nat.le_refl, and_self, and_true, true_and, not_true_eq_false, not_false_eq_true, reduceIte, hm, p64, t64, n64, p65, t65, n65, p66, t66, n66, p67, t67, n67, p68, t68, n68, p69, t69, n69, p70, t70, n70, p71, t71, n71, p72, t72, n72, p73, t73, n73, p74, t74, n74, p75, t75, n75, p76, t76, n76, p77, t77, n77, p78, t78, n78, ovl_7, ups_ovl_7, ovl_64, ups_ovl_64, ovl_65, ups_ovl_65, ovl_66, ups_ovl_66, ovl_67, ups_ovl_67, ovl_68, ups_ovl_68, ovl_69, ups_ovl_69, ovl_70, ups_ovl_70, ovl_71, ups_ovl_71, ovl_72, ups_ovl_72, ovl_73, ups_ovl_73, ovl_74, ups_ovl_74, ovl_75, ups_ovl_75, ovl_76, ups_ovl_76, ovl_78, ups_ovl_78, ovJ_77, ups_ovJ_77, hj, h0, e68]
  by_cases h1 : A 71 x.toNatClampNeg = 0 <;> by_cases h2 : 0 < A 68 x.toNatClampNeg <;> simp [h1, h2, isO]
/-- all unseen -/
def frs (A : Nat → Nat → Int32) : Nat → Nat → Nat → Int32
  | 0 => A
  | n + 1 => upA (frs A n) 73 n 0
theorem m_fresh_loop (hL : MLay g P m) : ∀ n i, i + n = 21 → (Ev sv d (74, 2, [some (.ref m), some (.int (nI i))], []) (tv t u g (ovl I m (frs A i)) J P) Q ↔ Q none (tv t u g (ovl I m (frs A 21)) J P)) := by
  obtain ⟨hm, p64, t64, n64, p65, t65, n65, p66, t66, n66, p67, t67, n67, p68, t68, n68, p69, t69, n69, p70, t70, n70, p71, t71, n71, p72, t72, n72, p73, t73, n73, p74, t74, n74, p75, t75, n75, p76, t76, n76, p77, t77, n77, p78, t78, n78⟩ := hL
  intro n
  induction n with
  | zero =>
    intro i hi
    have e : i = 21 := by omega
    subst e
    have h1 : (20 : Int32) < nI 21 := by decide
    refine s_X5_fresh_2.trans ?_
    simp only [s_X5_fresh_0, s_X5_fresh_1, s_X5_fresh_3, s_X5_fresh_5, s_X5_fresh_8, s_X5_fresh_8n, s_X5_fresh_8z, s_X5_fresh_9, s_X5_fresh_12, s_X5_fresh_13, s_X5_fresh_14, s_X5_fresh_15, s_X5_fresh_18, s_X5_fresh_21, tl_some, tl_none, cv_int, cv_ref, cv_null, cv_long, cat_rf, jcv_nil, jcat_cons, jv_none, jv_int, jv_ref, jv_null, jw_rf, rf_some, rf_none, bz_0, bz_1, i1_0, i0_0, if_true, if_false, ite_self, List.nil_append, List.cons_append, Nat.reduceAdd, Nat.reduceLeDiff, Nat.zero_le, Nat.le_refl, and_self, and_true, true_and, not_true_eq_false, not_false_eq_true, reduceIte, hm, p64, t64, n64, p65, t65, n65, p66, t66, n66, p67, t67, n67, p68, t68, n68, p69, t69, n69, p70, t70, n70, p71, t71, n71, p72, t72, n72, p73, t73, n73, p74, t74, n74, p75, t75, n75, p76, t76, n76, p77, t77, n77, p78, t78, n78, ovl_7, ups_ovl_7, ovl_64, ups_ovl_64, ovl_65, ups_ovl_65, ovl_66, ups_ovl_66, ovl_67, ups_ovl_67, ovl_68, ups_ovl_68, ovl_69, ups_ovl_69, ovl_70, ups_ovl_70, ovl_71, ups_ovl_71, ovl_72, ups_ovl_72, ovl_73, ups_ovl_73, ovl_74, ups_ovl_74, ovl_75, ups_ovl_75, ovl_76, ups_ovl_76, ovl_78, ups_ovl_78, ovJ_77, ups_ovJ_77, h1]
  | succ n ih =>
    intro i hi
    have h1 : ¬ (20 : Int32) < nI i := nI_nlt (a := 20) (b := i) (by omega) (by omega)
    have hj : jin (nI i) 21 = true := jin_nI (by omega) (by omega)
    have hc : (nI i).toNatClampNeg = i := nI_clamp (by omega)
    refine Iff.trans ?_ (ih (i + 1) (by omega))
    refine s_X5_fresh_2.trans ?_
    simp only [s_X5_fresh_0, s_X5_fresh_1, s_X5_fresh_3, s_X5_fresh_5, s_X5_fresh_8, s_X5_fresh_8n, s_X5_fresh_8z, s_X5_fresh_9, s_X5_fresh_12, s_X5_fresh_13, s_X5_fresh_14, s_X5_fresh_15, s_X5_fresh_18, s_X5_fresh_21, tl_some, tl_none, cv_int, cv_ref, cv_null, cv_long, cat_rf, jcv_nil, jcat_cons, jv_none, jv_int, jv_ref, jv_null, jw_rf, rf_some, rf_none, bz_0, bz_1, i1_0, i0_0, if_true, if_false, ite_self, List.nil_append, List.cons_append, Nat.reduceAdd, Nat.reduceLeDiff, Nat.zero_le, Nat.le_refl, and_self, and_true, true_and, not_true_eq_false, not_false_eq_true, reduceIte, hm, p64, t64, n64, p65, t65, n65, p66, t66, n66, p67, t67, n67, p68, t68, n68, p69, t69, n69, p70, t70, n70, p71, t71, n71, p72, t72, n72, p73, t73, n73, p74, t74, n74, p75, t75, n75, p76, t76, n76, p77, t77, n77, p78, t78, n78, ovl_7, ups_ovl_7, ovl_64, ups_ovl_64, ovl_65, ups_ovl_65, ovl_66, ups_ovl_66, ovl_67, ups_ovl_67, ovl_68, ups_ovl_68, ovl_69, ups_ovl_69, ovl_70, ups_ovl_70, ovl_71, ups_ovl_71, ovl_72, ups_ovl_72, ovl_73, ups_ovl_73, ovl_74, ups_ovl_74, ovl_75, ups_ovl_75, ovl_76, ups_ovl_76, ovl_78, ups_ovl_78, ovJ_77, ups_ovJ_77, h1, hj, hc, nIs, frs]
theorem m_fresh (hL : MLay g P m) : Ev sv d (74, 0, [some (.ref m), none], []) (tv t u g (ovl I m A) J P) Q ↔ Q none (tv t u g (ovl I m (frs A 21)) J P) := by
  simp only [s_X5_fresh_0, s_X5_fresh_1, s_X5_fresh_3, s_X5_fresh_5, s_X5_fresh_8, s_X5_fresh_8n, s_X5_fresh_8z, s_X5_fresh_9, s_X5_fresh_12, s_X5_fresh_13, s_X5_fresh_14, s_X5_fresh_15, s_X5_fresh_18, s_X5_fresh_21, tl_some, tl_none, cv_int, cv_ref, cv_null, cv_long, cat_rf, jcv_nil, jcat_cons, jv_none, jv_int, jv_ref, jv_null, jw_rf, rf_some, rf_none, bz_0, bz_1, i1_0, i0_0, if_true, if_false, ite_self, List.nil_append, List.cons_append, Nat.reduceAdd, Nat.reduceLeDiff, Nat.zero_le, Nat.le_refl, and_self, and_true, true_and, not_true_eq_false, not_false_eq_true, reduceIte]
  exact m_fresh_loop (A := A) hL 21 0 (by omega)
end
