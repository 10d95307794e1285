-- ===== the printed lines =====
theorem GrpAt.height {sv : Nat → Value} {d t u : Nat} {Q : Option Value → jM → Prop} {g : jG} {I : tI} {J : tJ} {P : tP} {A : Nat → Nat → Int32} {G b gi : Nat} (h : GrpAt g I P A G b gi) (hm : A 68 gi = nI (mnA A gi)) (h10 : mnA A gi ≤ 10) : Ev sv d (2, 0, [some (.ref G)], []) (tv t u g I J P) Q ↔ Q (some (.int (lat A gi 0 (mnA A gi - 1)))) (tv t u g I J P) := by
  obtain ⟨g1, g2, g3, g4, g5, g6, g7, g8, g9, g10, g11, g12⟩ := h
  by_cases h0 : mnA A gi = 0
  · have e : I 2 5 G = 0 := by rw [g8, hm, h0]; rfl
    have e2 : lat A gi 0 (mnA A gi - 1) = 0 := by rw [h0]; rfl
    rw [e2]
    simp only [s_X0_height_0, s_X0_height_0n, s_X0_height_0z, s_X0_height_1, s_X0_height_4, s_X0_height_7, s_X0_height_8, s_X0_height_11, s_X0_height_11n, s_X0_height_11z, s_X0_height_12, s_X0_height_15, s_X0_height_15n, s_X0_height_15z, s_X0_height_16, s_X0_height_19, s_X0_height_20, s_X0_height_21, s_X0_height_22, tl_some, tl_none, cv_int, cv_ref, cv_null, cv_long, cat_rf, jcv_nil, jcat_cons, jv_none, jv_int, jv_ref, jv_null, jw_rf, rf_some, rf_none, bz_0, bz_1, i1_0, i0_0, if_true, if_false, ite_self, List.nil_append, List.cons_append, Nat.reduceAdd, Nat.reduceLeDiff, Nat.zero_le, Nat.le_refl, and_self, and_true, true_and, not_true_eq_false, not_false_eq_true, reduceIte, g1, e]
  · have hz := nIz h0 (by omega)
    have e : I 2 5 G = nI (mnA A gi) := by rw [g8, hm]
    have e1 : nI (mnA A gi) - 1 = nI (mnA A gi - 1) := pk_sub (a := mnA A gi) (b := 1) (by omega)
    have hj : jin (nI (mnA A gi - 1)) 10 = true := jin_nI (by omega) (by omega)
    have hc : (nI (mnA A gi - 1)).toNatClampNeg = mnA A gi - 1 := nI_clamp (by omega)
    have eb := g12 (mnA A gi - 1) (by omega)
    simp only [s_X0_height_0, s_X0_height_0n, s_X0_height_0z, s_X0_height_1, s_X0_height_4, s_X0_height_7, s_X0_height_8, s_X0_height_11, s_X0_height_11n, s_X0_height_11z, s_X0_height_12, s_X0_height_15, s_X0_height_15n, s_X0_height_15z, s_X0_height_16, s_X0_height_19, s_X0_height_20, s_X0_height_21, s_X0_height_22, tl_some, tl_none, cv_int, cv_ref, cv_null, cv_long, cat_rf, jcv_nil, jcat_cons, jv_none, jv_int, jv_ref, jv_null, jw_rf, rf_some, rf_none, bz_0, bz_1, i1_0, i0_0, if_true, if_false, ite_self, List.nil_append, List.cons_append, Nat.reduceAdd, Nat.reduceLeDiff, Nat.zero_le, Nat.le_refl, and_self, and_true, true_and, not_true_eq_false, not_false_eq_true, reduceIte, g1, g2, g3, g4, e, hz, e1, hj, hc, eb]
theorem GrpAt.takes {sv : Nat → Value} {d t u : Nat} {Q : Option Value → jM → Prop} {g : jG} {I : tI} {J : tJ} {P : tP} {A : Nat → Nat → Int32} {G b gi : Nat} (h : GrpAt g I P A G b gi) : Ev sv d (3, 0, [some (.ref G), none], []) (tv t u g I J P) Q ↔ if isOA A gi then Q (some (.int 1)) (tv t u g (ups I 2 7 G 0) J P) else Q (some (.int 0)) (tv t u g (ups I 2 7 G 0) J P) := by
  obtain ⟨g1, g2, g3, g4, g5, g6, g7, g8, g9, g10, g11, g12⟩ := h
  by_cases c1 : A 71 gi = 0
  · have g9' := g9.mpr c1
    by_cases c2 : 0 < A 68 gi
    · rw [if_pos (c := isOA A gi) ⟨c1, c2⟩]
      simp only [s_X0_takesItsTurn_0, s_X0_takesItsTurn_0n, s_X0_takesItsTurn_0z, s_X0_takesItsTurn_1, s_X0_takesItsTurn_4, s_X0_takesItsTurn_7, s_X0_takesItsTurn_7n, s_X0_takesItsTurn_7z, s_X0_takesItsTurn_8, s_X0_takesItsTurn_11, s_X0_takesItsTurn_14, s_X0_takesItsTurn_15, s_X0_takesItsTurn_18, s_X0_takesItsTurn_19, s_X0_takesItsTurn_20, s_X0_takesItsTurn_20n, s_X0_takesItsTurn_20z, s_X0_takesItsTurn_21, s_X0_takesItsTurn_22, s_X0_takesItsTurn_25, s_X0_takesItsTurn_26, tl_some, tl_none, cv_int, cv_ref, cv_null, cv_long, cat_rf, jcv_nil, jcat_cons, jv_none, jv_int, jv_ref, jv_null, jw_rf, rf_some, rf_none, bz_0, bz_1, i1_0, i0_0, if_true, if_false, ite_self, List.nil_append, List.cons_append, Nat.reduceAdd, Nat.reduceLeDiff, Nat.zero_le, Nat.le_refl, and_self, and_true, true_and, not_true_eq_false, not_false_eq_true, reduceIte, g1, g8, g9', c2]
    · rw [if_neg (c := isOA A gi) (fun q => c2 q.2)]
      simp only [s_X0_takesItsTurn_0, s_X0_takesItsTurn_0n, s_X0_takesItsTurn_0z, s_X0_takesItsTurn_1, s_X0_takesItsTurn_4, s_X0_takesItsTurn_7, s_X0_takesItsTurn_7n, s_X0_takesItsTurn_7z, s_X0_takesItsTurn_8, s_X0_takesItsTurn_11, s_X0_takesItsTurn_14, s_X0_takesItsTurn_15, s_X0_takesItsTurn_18, s_X0_takesItsTurn_19, s_X0_takesItsTurn_20, s_X0_takesItsTurn_20n, s_X0_takesItsTurn_20z, s_X0_takesItsTurn_21, s_X0_takesItsTurn_22, s_X0_takesItsTurn_25, s_X0_takesItsTurn_26, tl_some, tl_none, cv_int, cv_ref, cv_null, cv_long, cat_rf, jcv_nil, jcat_cons, jv_none, jv_int, jv_ref, jv_null, jw_rf, rf_some, rf_none, bz_0, bz_1, i1_0, i0_0, if_true, if_false, ite_self, List.nil_append, List.cons_append, Nat.reduceAdd, Nat.reduceLeDiff, Nat.zero_le, Nat.le_refl, and_self, and_true, true_and, not_true_eq_false, not_false_eq_true, reduceIte, g1, g8, g9', c2]
  · have g9' : ¬ I 2 7 G = 0 := fun q => c1 (g9.mp q)
    rw [if_neg (c := isOA A gi) (fun q => c1 q.1)]
    simp only [s_X0_takesItsTurn_0, s_X0_takesItsTurn_0n, s_X0_takesItsTurn_0z, s_X0_takesItsTurn_1, s_X0_takesItsTurn_4, s_X0_takesItsTurn_7, s_X0_takesItsTurn_7n, s_X0_takesItsTurn_7z, s_X0_takesItsTurn_8, s_X0_takesItsTurn_11, s_X0_takesItsTurn_14, s_X0_takesItsTurn_15, s_X0_takesItsTurn_18, s_X0_takesItsTurn_19, s_X0_takesItsTurn_20, s_X0_takesItsTurn_20n, s_X0_takesItsTurn_20z, s_X0_takesItsTurn_21, s_X0_takesItsTurn_22, s_X0_takesItsTurn_25, s_X0_takesItsTurn_26, tl_some, tl_none, cv_int, cv_ref, cv_null, cv_long, cat_rf, jcv_nil, jcat_cons, jv_none, jv_int, jv_ref, jv_null, jw_rf, rf_some, rf_none, bz_0, bz_1, i1_0, i0_0, if_true, if_false, ite_self, List.nil_append, List.cons_append, Nat.reduceAdd, Nat.reduceLeDiff, Nat.zero_le, Nat.le_refl, and_self, and_true, true_and, not_true_eq_false, not_false_eq_true, reduceIte, g1, g8, g9']
section
variable {sv : Nat → Value} {d t u : Nat} {Q : Option Value → jM → Prop} {g : jG} {I : tI} {J : tJ} {P : tP} {A : Nat → Nat → Int32} {ω : Wd} {tb ub : Nat} {x y z : Int32}
/-- the cells of a line, once its sheet is there -/
theorem c_add_put {pr sh he hc nsh n : Nat} {ha hb : Nat → Nat} {p0 p1 p2 p3 p4 : Int32} (h3 : jt g pr = some 3) (h30 : P 3 0 pr = some sh) (h31 : I 3 1 pr = nI n) (hL : Lst sv g I P sh he hc nsh ha) (hq : n / 64 < nsh) (hn : n < 100000) (hsh : jt g (ha (n / 64)) = some 4 ∧ P 4 0 (ha (n / 64)) = some (hb (n / 64)) ∧ jt g (hb (n / 64)) = some 63 ∧ jn g (hb (n / 64)) = 320) {l7 l8 : Option Value} :
    Ev sv (d + 3) (6, 36, [some (.ref pr), some (.int p0), some (.int p1), some (.int p2), some (.int p3), some (.int p4), some (.int (nI (n / 64))), l7, l8], []) (tv t u g I J P) Q ↔ Q none (tv t u g (ups (ups (ups (ups (ups (ups I 63 (n % 64 * 5) (hb (n / 64)) p0) 63 (n % 64 * 5 + 1) (hb (n / 64)) p1) 63 (n % 64 * 5 + 2) (hb (n / 64)) p2) 63 (n % 64 * 5 + 3) (hb (n / 64)) p3) 63 (n % 64 * 5 + 4) (hb (n / 64)) p4) 3 1 pr (nI (n + 1))) J P) := by
  obtain ⟨s1, s2, s3, s4⟩ := hsh
  have hrem : nI n - nI n / 64 * 64 = nI (n % 64) := pk_rem (a := n) (d := 64) (by omega) (by omega) (by omega)
  have h64 : ¬ (64 : Int32) = 0 := by decide
  have hm5 : nI (n % 64) * 5 = nI (n % 64 * 5) := nI_mul _ 5
  have a1 : nI (n % 64 * 5) + 1 = nI (n % 64 * 5 + 1) := nI_add _ 1
  have a2 : nI (n % 64 * 5) + 2 = nI (n % 64 * 5 + 2) := nI_add _ 2
  have a3 : nI (n % 64 * 5) + 3 = nI (n % 64 * 5 + 3) := nI_add _ 3
  have a4 : nI (n % 64 * 5) + 4 = nI (n % 64 * 5 + 4) := nI_add _ 4
  have hlt : n % 64 < 64 := Nat.mod_lt _ (by decide)
  have c0 : (nI (n % 64 * 5)).toNatClampNeg = n % 64 * 5 := nI_clamp (by omega)
  have c1 : (nI (n % 64 * 5 + 1)).toNatClampNeg = n % 64 * 5 + 1 := nI_clamp (by omega)
  have c2 : (nI (n % 64 * 5 + 2)).toNatClampNeg = n % 64 * 5 + 2 := nI_clamp (by omega)
  have c3 : (nI (n % 64 * 5 + 3)).toNatClampNeg = n % 64 * 5 + 3 := nI_clamp (by omega)
  have c4 : (nI (n % 64 * 5 + 4)).toNatClampNeg = n % 64 * 5 + 4 := nI_clamp (by omega)
  have j0 : jin (nI (n % 64 * 5)) 320 = true := jin_nI (by omega) (by omega)
  have j1 : jin (nI (n % 64 * 5 + 1)) 320 = true := jin_nI (by omega) (by omega)
  have j2 : jin (nI (n % 64 * 5 + 2)) 320 = true := jin_nI (by omega) (by omega)
  have j3 : jin (nI (n % 64 * 5 + 3)) 320 = true := jin_nI (by omega) (by omega)
  have j4 : jin (nI (n % 64 * 5 + 4)) 320 = true := jin_nI (by omega) (by omega)
  have hs := nIs n
  have r : ∀ (f : tI) k v, ups f 63 k (hb (n / 64)) v 3 1 pr = f 3 1 pr := fun f k v => rfl
  have hg := fun (Q : Option Value → jM → Prop) => l_get (sv := sv) (d := d) (t := t) (u := u) (Q := Q) (J := J) hL hq
  have hsh1 := hL.1
  simp only [s_X1_add_36, s_X1_add_36n, s_X1_add_36z, s_X1_add_37, s_X1_add_40, s_X1_add_42, s_X1_add_45, s_X1_add_45z, s_X1_add_48, s_X1_add_51, s_X1_add_51n, s_X1_add_51z, s_X1_add_53, s_X1_add_53n, s_X1_add_53z, s_X1_add_54, s_X1_add_57, s_X1_add_59, s_X1_add_60, s_X1_add_61, s_X1_add_62, s_X1_add_64, s_X1_add_64n, s_X1_add_64z, s_X1_add_66, s_X1_add_68, s_X1_add_69, s_X1_add_70, s_X1_add_70n, s_X1_add_70z, s_X1_add_72, s_X1_add_74, s_X1_add_75, s_X1_add_76, s_X1_add_77, s_X1_add_78, s_X1_add_78n, s_X1_add_78z, s_X1_add_80, s_X1_add_82, s_X1_add_83, s_X1_add_84, s_X1_add_85, s_X1_add_86, s_X1_add_86n, s_X1_add_86z, s_X1_add_88, s_X1_add_90, s_X1_add_91, s_X1_add_92, s_X1_add_94, s_X1_add_95, s_X1_add_95n, s_X1_add_95z, s_X1_add_97, s_X1_add_99, s_X1_add_100, s_X1_add_101, s_X1_add_103, s_X1_add_104, s_X1_add_104n, s_X1_add_104z, s_X1_add_105, s_X1_add_106, s_X1_add_109, s_X1_add_110, s_X1_add_111, s_X1_add_114, tl_some, tl_none, cv_int, cv_ref, cv_null, cv_long, cat_rf, jcv_nil, jcat_cons, jv_none, jv_int, jv_ref, jv_null, jw_rf, rf_some, rf_none, bz_0, bz_1, i1_0, i0_0, if_true, if_false, ite_self, List.nil_append, List.cons_append, Nat.reduceAdd, Nat.reduceLeDiff, Nat.zero_le, Nat.le_refl, and_self, and_true, true_and, not_true_eq_false, not_false_eq_true, reduceIte, h3, h30, h31, hsh1, hg, s1, s2, s3, s4, h64, hrem, hm5, a1, a2, a3, a4, c0, c1, c2, c3, c4, j0, j1, j2, j3, j4, hs, r]
/-- a sheet more -/
theorem c_sheet {d : Nat} : Ev sv (d + 1) (9, 0, [some (.ref t)], []) (tv (t + 1) u (jgset g t (4, 1)) I J P) Q ↔ Q none (tv (t + 2) (u + 320) (jgset (jgset g t (4, 1)) (t + 1) (63, 320)) (upc I 63 (t + 1) (fun _ => 0)) (upc J 63 (t + 1) (fun _ => 0)) (ups (upc P 63 (t + 1) (fun _ => none)) 4 0 t (some (t + 1)))) := by
  have h1 : jt (jgset (jgset g t (4, 1)) (t + 1) (63, 320)) t = some 4 := by rw [jt_set, if_neg (by omega), jt_set, if_pos rfl]
  simp only [s_X2_init_0, s_X2_init_0n, s_X2_init_0z, s_X2_init_1, s_X2_init_4, s_X2_init_4n, s_X2_init_4z, s_X2_init_5, s_X2_init_8, s_X2_init_10, s_X2_init_10n, s_X2_init_13, tl_some, tl_none, cv_int, cv_ref, cv_null, cv_long, cat_rf, jcv_nil, jcat_cons, jv_none, jv_int, jv_ref, jv_null, jw_rf, rf_some, rf_none, bz_0, bz_1, i1_0, i0_0, if_true, if_false, ite_self, List.nil_append, List.cons_append, Nat.reduceAdd, Nat.reduceLeDiff, Nat.zero_le, Nat.le_refl, and_self, and_true, true_and, not_true_eq_false, not_false_eq_true, reduceIte, h1]
/-- the five places of a line -/
theorem p5 {I : tI} {hbq k0 : Nat} {p0 p1 p2 p3 p4 : Int32} (j : Nat) (b : Nat) : ups (ups (ups (ups (ups I 63 k0 hbq p0) 63 (k0 + 1) hbq p1) 63 (k0 + 2) hbq p2) 63 (k0 + 3) hbq p3) 63 (k0 + 4) hbq p4 63 j b = if b = hbq ∧ j = k0 then p0 else if b = hbq ∧ j = k0 + 1 then p1 else if b = hbq ∧ j = k0 + 2 then p2 else if b = hbq ∧ j = k0 + 3 then p3 else if b = hbq ∧ j = k0 + 4 then p4 else I 63 j b := by
  simp only [ups_ap, true_and]
  by_cases hb : b = hbq
  · subst hb
    simp only [and_true, true_and]
    by_cases h0 : j = k0
    · subst h0
      simp
    by_cases h1 : j = k0 + 1
    · subst h1
      simp
    by_cases h2 : j = k0 + 2
    · subst h2
      simp
    by_cases h3 : j = k0 + 3
    · subst h3
      simp
    by_cases h4 : j = k0 + 4
    · subst h4
      simp
    · simp [h0, h1, h2, h3, h4]
  · simp [hb]
theorem putA_78 {A : Nat → Nat → Int32} {gi : Nat} {k a v : Int32} (j : Nat) : putA A gi k a v 78 j = if j = 5 * ln A then A 7 24 else if j = 5 * ln A + 1 then a else if j = 5 * ln A + 2 then nI gi else if j = 5 * ln A + 3 then k else if j = 5 * ln A + 4 then v else A 78 j := by
  unfold putA
  simp only [upA_ap]
  by_cases h0 : j = 5 * ln A
  · subst h0
    simp
  by_cases h1 : j = 5 * ln A + 1
  · subst h1
    simp
  by_cases h2 : j = 5 * ln A + 2
  · subst h2
    simp
  by_cases h3 : j = 5 * ln A + 3
  · subst h3
    simp
  by_cases h4 : j = 5 * ln A + 4
  · subst h4
    simp
  · simp [h0, h1, h2, h3, h4]
/-- what the cells hold behind the line -/
theorem rp_cells {A : Nat → Nat → Int32} {I : tI} {hb : Nat → Nat} {nsh gi : Nat} {k a v : Int32} (hlt : ln A < 100000) (hq : ln A / 64 < nsh) (hinj : ∀ q r, q < nsh → r < nsh → hb q = hb r → q = r) (hold : ∀ i, i < ln A → ∀ c, c < 5 → I 63 (i % 64 * 5 + c) (hb (i / 64)) = A 78 (5 * i + c)) (hsz : ln A ≤ 64 * nsh) :
    ∀ i, i < ln (putA A gi k a v) → ∀ c, c < 5 → ups (ups (ups (ups (ups I 63 (ln A % 64 * 5) (hb (ln A / 64)) (A 7 24)) 63 (ln A % 64 * 5 + 1) (hb (ln A / 64)) a) 63 (ln A % 64 * 5 + 2) (hb (ln A / 64)) (nI gi)) 63 (ln A % 64 * 5 + 3) (hb (ln A / 64)) k) 63 (ln A % 64 * 5 + 4) (hb (ln A / 64)) v 63 (i % 64 * 5 + c) (hb (i / 64)) = putA A gi k a v 78 (5 * i + c) := by
  intro i hi c hc
  rw [putA_ln hlt] at hi
  rw [p5, putA_78]
  by_cases h : i = ln A
  · subst h
    have e : ∀ j, (hb (ln A / 64) = hb (ln A / 64) ∧ ln A % 64 * 5 + c = ln A % 64 * 5 + j) ↔ c = j := fun j => ⟨fun q => by omega, fun q => ⟨rfl, by omega⟩⟩
    have e0 : (hb (ln A / 64) = hb (ln A / 64) ∧ ln A % 64 * 5 + c = ln A % 64 * 5) ↔ c = 0 := e 0
    have f : ∀ j, (5 * ln A + c = 5 * ln A + j) ↔ c = j := fun j => ⟨fun q => by omega, fun q => by omega⟩
    have f0 : (5 * ln A + c = 5 * ln A) ↔ c = 0 := f 0
    simp only [e, e0, f, f0]
    have : c = 0 ∨ c = 1 ∨ c = 2 ∨ c = 3 ∨ c = 4 := by omega
    rcases this with h | h | h | h | h <;> subst h <;> simp
  · have hil : i < ln A := by omega
    have hne : ∀ j, j < 5 → ¬ (hb (i / 64) = hb (ln A / 64) ∧ i % 64 * 5 + c = ln A % 64 * 5 + j) := by
      intro j hj q
      have h1 := hinj (i / 64) (ln A / 64) (by omega) hq q.1
      have h2 := q.2
      omega
    have hn0 := hne 0 (by decide)
    have hn1 := hne 1 (by decide)
    have hn2 := hne 2 (by decide)
    have hn3 := hne 3 (by decide)
    have hn4 := hne 4 (by decide)
    rw [Nat.add_zero] at hn0
    rw [if_neg hn0, if_neg hn1, if_neg hn2, if_neg hn3, if_neg hn4, if_neg (by omega), if_neg (by omega), if_neg (by omega), if_neg (by omega), if_neg (by omega)]
    exact hold i hil c hc
end
