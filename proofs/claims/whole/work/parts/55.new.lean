-- ===== the two constructors: numbers held in bounds =====
def hD (n lo hi : Int32) : Int32 := if n < lo then lo else if hi < n then hi else n
theorem hD_nI {x : Int32} {l h : Nat} (hl : l ≤ h) (hh : h < 1000) : ∃ n, hD x (nI l) (nI h) = nI n ∧ l ≤ n ∧ n ≤ h := by
  unfold hD
  by_cases h1 : x < nI l
  · rw [if_pos h1]
    exact ⟨l, rfl, Nat.le_refl l, hl⟩
  · rw [if_neg h1]
    by_cases h2 : nI h < x
    · rw [if_pos h2]
      exact ⟨h, rfl, hl, Nat.le_refl h⟩
    · rw [if_neg h2]
      have e1 : (nI l).toInt = (l : Int) := nI_toInt (by omega)
      have e2 : (nI h).toInt = (h : Int) := nI_toInt (by omega)
      have h3 : ¬ x.toInt < (l : Int) := fun q => h1 (i32_lt.mpr (by rw [e1]; exact q))
      have h4 : ¬ (h : Int) < x.toInt := fun q => h2 (i32_lt.mpr (by rw [e2]; exact q))
      have h0 : ¬ x < 0 := fun q => by
        have := i32_lt.mp q
        have z0 : (0 : Int32).toInt = 0 := rfl
        rw [z0] at this
        omega
      have h5 := clamp_pos h0
      exact ⟨x.toNatClampNeg, nIo h0, by omega, by omega⟩
section
variable {sv : Nat → Value} {d t u : Nat} {Q : Option Value → jM → Prop} {M : jM} {g : jG} {I I' : tI} {J : tJ} {P : tP} {A B : Nat → Nat → Int32} {T T' : Nat → Int64} {ω : Wd} {tb ub st a em : Nat} {x y z lo hi : Int32}
theorem c_held (h : ¬ hi < lo) : Ev sv (d + 1) (26, 0, [some (.int x), some (.int lo), some (.int hi)], []) M Q ↔ Q (some (.int (hD x lo hi))) M := by
  have e : (if lo < (if hi < x then hi else x) then (if hi < x then hi else x) else lo) = hD x lo hi := by
    unfold hD
    by_cases h1 : x < lo
    · rw [if_pos h1]
      have h2 : ¬ hi < x := fun q => h (i32_lt.mpr (Int.lt_trans (i32_lt.mp q) (i32_lt.mp h1)))
      rw [if_neg h2, if_neg]
      exact fun q => by
        have a1 := i32_lt.mp q
        have a2 := i32_lt.mp h1
        omega
    · rw [if_neg h1]
      by_cases h2 : hi < x
      · rw [if_pos h2]
        by_cases h3 : lo < hi
        · rw [if_pos h3]
        · rw [if_neg h3]
          have : lo.toInt = hi.toInt := by
            have a1 : ¬ lo.toInt < hi.toInt := fun q => h3 (i32_lt.mpr q)
            have a2 : ¬ hi.toInt < lo.toInt := fun q => h (i32_lt.mpr q)
            omega
          exact Int32.toInt_inj.mp this
      · rw [if_neg h2]
        by_cases h3 : lo < x
        · rw [if_pos h3]
        · rw [if_neg h3]
          have : lo.toInt = x.toInt := by
            have a1 : ¬ lo.toInt < x.toInt := fun q => h3 (i32_lt.mpr q)
            have a2 : ¬ x.toInt < lo.toInt := fun q => h1 (i32_lt.mpr q)
            omega
          exact Int32.toInt_inj.mp this
  rw [← e]
  simp only [s_X4_held_0, s_X4_held_1, s_X4_held_2, s_X4_held_3, s_X4_held_6, s_X4_held_9, tl_some, tl_none, cv_int, cv_ref, cv_null, cv_long, cat_rf, jcv_nil, jcat_cons, jv_none, jv_int, jv_ref, jv_null, jw_rf, rf_some, rf_none, bz_0, bz_1, i1_0, i0_0, if_true, if_false, ite_self, List.nil_append, List.cons_append, Nat.reduceAdd, Nat.reduceLeDiff, Nat.zero_le, Nat.le_refl, and_self, and_true, true_and, not_true_eq_false, not_false_eq_true, reduceIte]
theorem m_heldD : Ev sv d (53, 0, [some (.int x), some (.int lo), some (.int hi)], []) M Q ↔ Q (some (.int (hD x lo hi))) M := by
  unfold hD
  by_cases h1 : x < lo
  · simp only [s_X5_held_0, s_X5_held_1, s_X5_held_2, s_X5_held_5, s_X5_held_6, s_X5_held_9, s_X5_held_10, s_X5_held_11, s_X5_held_14, s_X5_held_15, s_X5_held_18, s_X5_held_19, tl_some, tl_none, cv_int, cv_ref, cv_null, cv_long, cat_rf, jcv_nil, jcat_cons, jv_none, jv_int, jv_ref, jv_null, jw_rf, rf_some, rf_none, bz_0, bz_1, i1_0, i0_0, if_true, if_false, ite_self, List.nil_append, List.cons_append, Nat.reduceAdd, Nat.reduceLeDiff, Nat.zero_le, Nat.le_refl, and_self, and_true, true_and, not_true_eq_false, not_false_eq_true, reduceIte, h1]
  · by_cases h2 : hi < x
    · simp only [s_X5_held_0, s_X5_held_1, s_X5_held_2, s_X5_held_5, s_X5_held_6, s_X5_held_9, s_X5_held_10, s_X5_held_11, s_X5_held_14, s_X5_held_15, s_X5_held_18, s_X5_held_19, tl_some, tl_none, cv_int, cv_ref, cv_null, cv_long, cat_rf, jcv_nil, jcat_cons, jv_none, jv_int, jv_ref, jv_null, jw_rf, rf_some, rf_none, bz_0, bz_1, i1_0, i0_0, if_true, if_false, ite_self, List.nil_append, List.cons_append, Nat.reduceAdd, Nat.reduceLeDiff, Nat.zero_le, Nat.le_refl, and_self, and_true, true_and, not_true_eq_false, not_false_eq_true, reduceIte, h1, h2]
    · simp only [s_X5_held_0, s_X5_held_1, s_X5_held_2, s_X5_held_5, s_X5_held_6, s_X5_held_9, s_X5_held_10, s_X5_held_11, s_X5_held_14, s_X5_held_15, s_X5_held_18, s_X5_held_19, tl_some, tl_none, cv_int, cv_ref, cv_null, cv_long, cat_rf, jcv_nil, jcat_cons, jv_none, jv_int, jv_ref, jv_null, jw_rf, rf_some, rf_none, bz_0, bz_1, i1_0, i0_0, if_true, if_false, ite_self, List.nil_append, List.cons_append, Nat.reduceAdd, Nat.reduceLeDiff, Nat.zero_le, Nat.le_refl, and_self, and_true, true_and, not_true_eq_false, not_false_eq_true, reduceIte, h1, h2]
end
/-- page, first line, last line of the body -/
def pgH (x : Int32) : Int32 := hD x 10 100
def fsH (x y : Int32) : Int32 := hD y 2 (pgH x - 2)
def ftH (x y z : Int32) : Int32 := hD z (fsH x y) (pgH x - 1)
theorem dims (x y z : Int32) : ∃ p f o : Nat, pgH x = nI p ∧ 10 ≤ p ∧ p ≤ 100 ∧ fsH x y = nI f ∧ 2 ≤ f ∧ f ≤ p - 2 ∧ ftH x y z = nI o ∧ f ≤ o ∧ o ≤ p - 1 ∧ ¬ pgH x - 2 < 2 ∧ ¬ pgH x - 1 < fsH x y := by
  obtain ⟨p, h1, h2, h3⟩ := hD_nI (x := x) (l := 10) (h := 100) (by omega) (by omega)
  have h1 : pgH x = nI p := h1
  have e2 : pgH x - 2 = nI (p - 2) := by rw [h1]; exact pk_sub (a := p) (b := 2) (by omega)
  have e1 : pgH x - 1 = nI (p - 1) := by rw [h1]; exact pk_sub (a := p) (b := 1) (by omega)
  obtain ⟨f, h4, h5, h6⟩ := hD_nI (x := y) (l := 2) (h := p - 2) (by omega) (by omega)
  have h4 : fsH x y = nI f := by unfold fsH; rw [e2]; exact h4
  obtain ⟨o, h7, h8, h9⟩ := hD_nI (x := z) (l := f) (h := p - 1) (by omega) (by omega)
  have h7 : ftH x y z = nI o := by unfold ftH; rw [e1, h4]; exact h7
  exact ⟨p, f, o, h1, h2, h3, h4, h5, h6, h7, h8, h9, by rw [e2]; exact nI_nlt (b := 2) (by omega) (by omega), by rw [e1, h4]; exact nI_nlt (by omega) (by omega)⟩
def iA (p f o : Int32) : Nat → Nat → Int32 := fun κ k => if κ = 7 then (if k = 1 then p else if k = 2 then f else if k = 3 then o else 0) else 0
theorem iA_o {p f o : Int32} {κ k : Nat} (h : κ ≠ 7) : iA p f o κ k = 0 := if_neg h
-- ===== new ReportWriter =====
def kI1 (I : tI) (t : Nat) : tI := ups (upc I 1 t (fun _ => 0)) 1 0 t 0
def kP1 (P : tP) (t em : Nat) : tP := ups (upc P 1 t (fun _ => none)) 1 1 t (some em)
def kI (I : tI) (a t : Nat) : tI := ups (ups (ups (ups (ups (ups (ups (ups (kI1 (upc (upc (upc (ups (kI1 (kI1 I t) (t + 1)) 6 5 a 0) 60 (t + 2) (fun _ => 0)) 61 (t + 3) (fun _ => 0)) 3 (t + 4) (fun _ => 0)) (t + 5)) 3 1 (t + 4) 0) 6 9 a 0) 6 10 a 0) 6 11 a 0) 6 12 a 0) 6 13 a 0) 6 14 a 0) 6 15 a 0
def kJ (J : tJ) (t : Nat) : tJ := upc (upc (upc (upc (upc (upc J 1 t (fun _ => 0)) 1 (t + 1) (fun _ => 0)) 60 (t + 2) (fun _ => 0)) 61 (t + 3) (fun _ => 0)) 3 (t + 4) (fun _ => 0)) 1 (t + 5) (fun _ => 0)
def kP (P : tP) (a t em : Nat) : tP := ups (ups (kP1 (upc (ups (upc (ups (upc (ups (kP1 (ups (kP1 P t em) 6 3 a (some t)) (t + 1) em) 6 4 a (some (t + 1))) 60 (t + 2) (fun _ => none)) 6 6 a (some (t + 2))) 61 (t + 3) (fun _ => none)) 6 7 a (some (t + 3))) 3 (t + 4) (fun _ => none)) (t + 5) em) 3 0 (t + 4) (some (t + 5))) 6 8 a (some (t + 4))
def kG (g : jG) (t : Nat) : jG := jgset (jgset (jgset (jgset (jgset (jgset g t (1, 3)) (t + 1) (1, 3)) (t + 2) (60, 6)) (t + 3) (61, 6)) (t + 4) (3, 2)) (t + 5) (1, 3)
section
variable {sv : Nat → Value} {d t u : Nat} {Q : Option Value → jM → Prop} {M : jM} {g : jG} {I I' : tI} {J : tJ} {P : tP} {A B : Nat → Nat → Int32} {T T' : Nat → Int64} {ω : Wd} {tb ub st a em : Nat} {x y z lo hi : Int32}
theorem c_list (h0 : sv 0 = .ref em) {b : Nat} (hb : jt g b = some 1) : Ev sv (d + 3) (94, 0, [some (.ref b)], []) (tv t u g I J P) Q ↔ Q none (tv t u g (ups I 1 0 b 0) J (ups P 1 1 b (some em))) := by
  simp only [s_Jx4a65c_init_da8c8_0, s_Jx4a65c_init_da8c8_0n, s_Jx4a65c_init_da8c8_0z, s_Jx4a65c_init_da8c8_1, s_Jx4a65c_init_da8c8_4, s_Jx4a65c_init_da8c8_4n, s_Jx4a65c_init_da8c8_4z, s_Jx4a65c_init_da8c8_5, s_Jx4a65c_init_da8c8_8, s_Jx4a65c_init_da8c8_8n, s_Jx4a65c_init_da8c8_11, s_Jxc12de_init_da8c8_0, s_Jxc12de_init_da8c8_0n, s_Jxc12de_init_da8c8_0z, s_Jxc12de_init_da8c8_1, s_Jxc12de_init_da8c8_4, s_Jxc12de_init_da8c8_4n, s_Jxc12de_init_da8c8_4z, s_Jxc12de_init_da8c8_5, s_Jxc12de_init_da8c8_6, s_Jxc12de_init_da8c8_9, s_Jxa1e45_init_da8c8_0, s_Jxa1e45_init_da8c8_0n, s_Jxa1e45_init_da8c8_0z, s_Jxa1e45_init_da8c8_1, s_Jxa1e45_init_da8c8_4, tl_some, tl_none, cv_int, cv_ref, cv_null, cv_long, cat_rf, jcv_nil, jcat_cons, jv_none, jv_int, jv_ref, jv_null, jw_rf, rf_some, rf_none, bz_0, bz_1, i1_0, i0_0, if_true, if_false, ite_self, List.nil_append, List.cons_append, Nat.reduceAdd, Nat.reduceLeDiff, Nat.zero_le, Nat.le_refl, and_self, and_true, true_and, not_true_eq_false, not_false_eq_true, reduceIte, hb, h0]
theorem c_ctor2 (h6 : jt g a = some 6) (h60 : I 6 0 a = pgH x) : Ev sv (d + 1 + 1) (11, 105, [some (.ref a), some (.int x), some (.int y), some (.int z)], []) (tv t u g I J P) Q ↔ Q none (tv t u g (ups (ups I 6 1 a (fsH x y)) 6 2 a (ftH x y z)) J P) := by
  obtain ⟨p, f, o, -, -, -, -, -, -, -, -, -, w1, w2⟩ := dims x y z
  have k2 := fun (Q : Option Value → jM → Prop) (M : jM) => c_held (sv := sv) (d := d) (Q := Q) (M := M) (x := y) w1
  have k3 := fun (Q : Option Value → jM → Prop) (M : jM) => c_held (sv := sv) (d := d) (Q := Q) (M := M) (x := z) w2
  have e2 : hD y 2 (pgH x - 2) = fsH x y := rfl
  have e3 : hD z (fsH x y) (pgH x - 1) = ftH x y z := rfl
  have r1 : ups I 6 1 a (fsH x y) 6 1 a = fsH x y := if_pos ⟨rfl, rfl, rfl⟩
  have r0 : ups I 6 1 a (fsH x y) 6 0 a = pgH x := by rw [ups_ap, if_neg (fun q => absurd q.2.1 (by decide))]; exact h60
  simp only [s_X4_init_105, s_X4_init_105n, s_X4_init_105z, s_X4_init_106, s_X4_init_107, s_X4_init_108, s_X4_init_108n, s_X4_init_108z, s_X4_init_109, s_X4_init_112, s_X4_init_113, s_X4_init_114, s_X4_init_117, s_X4_init_120, s_X4_init_120n, s_X4_init_120z, s_X4_init_121, s_X4_init_122, s_X4_init_122n, s_X4_init_122z, s_X4_init_123, s_X4_init_126, s_X4_init_126n, s_X4_init_126z, s_X4_init_127, s_X4_init_130, s_X4_init_131, s_X4_init_132, s_X4_init_135, s_X4_init_138, tl_some, tl_none, cv_int, cv_ref, cv_null, cv_long, cat_rf, jcv_nil, jcat_cons, jv_none, jv_int, jv_ref, jv_null, jw_rf, rf_some, rf_none, bz_0, bz_1, i1_0, i0_0, if_true, if_false, ite_self, List.nil_append, List.cons_append, Nat.reduceAdd, Nat.reduceLeDiff, Nat.zero_le, Nat.le_refl, and_self, and_true, true_and, not_true_eq_false, not_false_eq_true, reduceIte, h6, h60, k2, k3, e2, e3, r1, r0]
theorem c_ctor (h0 : sv 0 = .ref em) (h6 : jt g a = some 6) (hat : a < t) : Ev sv (d + 1 + 1 + 1 + 1 + 1) (11, 0, [some (.ref a), some (.int x), some (.int y), some (.int z)], []) (tv t u g I J P) Q ↔ Q none (tv (t + 6) (u + 23) (kG g t) (ups (ups (ups (kI I a t) 6 0 a (pgH x)) 6 1 a (fsH x y)) 6 2 a (ftH x y z)) (kJ J t) (kP P a t em)) := by
  have st : ∀ (g : jG) (b : Nat) (q : Nat × Nat), b ≠ a → jt g a = some 6 → jt (jgset g b q) a = some 6 := fun g b q hb h => by rw [jt_set, if_neg (fun e => hb e.symm)]; exact h
  have nw : ∀ (g : jG) (b κ n : Nat), jt (jgset g b (κ, n)) b = some κ := fun g b κ n => by rw [jt_set, if_pos rfl]
  have g1 := st g t (1, 3) (by omega) h6
  have g2 := st _ (t + 1) (1, 3) (by omega) g1
  have g3 := st _ (t + 1 + 1) (60, 6) (by omega) g2
  have g4 := st _ (t + 1 + 1 + 1) (61, 6) (by omega) g3
  have g5 := st _ (t + 1 + 1 + 1 + 1) (3, 2) (by omega) g4
  have g6 := st _ (t + 1 + 1 + 1 + 1 + 1) (1, 3) (by omega) g5
  have n1 := nw g t 1 3
  have n2 := nw (jgset g t (1, 3)) (t + 1) 1 3
  have n5 := nw (jgset (jgset (jgset (jgset g t (1, 3)) (t + 1) (1, 3)) (t + 1 + 1) (60, 6)) (t + 1 + 1 + 1) (61, 6)) (t + 1 + 1 + 1 + 1) 3 2
  have n6 := nw (jgset (jgset (jgset (jgset (jgset g t (1, 3)) (t + 1) (1, 3)) (t + 1 + 1) (60, 6)) (t + 1 + 1 + 1) (61, 6)) (t + 1 + 1 + 1 + 1) (3, 2)) (t + 1 + 1 + 1 + 1 + 1) 1 3
  have n56 : jt (jgset (jgset (jgset (jgset (jgset (jgset g t (1, 3)) (t + 1) (1, 3)) (t + 1 + 1) (60, 6)) (t + 1 + 1 + 1) (61, 6)) (t + 1 + 1 + 1 + 1) (3, 2)) (t + 1 + 1 + 1 + 1 + 1) (1, 3)) (t + 1 + 1 + 1 + 1) = some 3 := by
    rw [jt_set, if_neg (by omega)]
    exact n5
  have k1 := fun (Q : Option Value → jM → Prop) (M : jM) => c_held (sv := sv) (d := d + 1 + 1 + 1) (Q := Q) (M := M) (x := x) (lo := 10) (hi := 100) (by decide)
  have e1 : hD x 10 100 = pgH x := rfl
  have S : Ev sv (d + 1 + 1 + 1 + 1 + 1) (11, 0, [some (.ref a), some (.int x), some (.int y), some (.int z)], []) (tv t u g I J P) Q ↔ Ev sv (d + 1 + 1 + 1 + 1 + 1) (11, 105, [some (.ref a), some (.int x), some (.int y), some (.int z)], []) (tv (t + 6) (u + 23) (kG g t) (ups (kI I a t) 6 0 a (pgH x)) (kJ J t) (kP P a t em)) Q := by
    simp only [s_X4_init_0, s_X4_init_0n, s_X4_init_0z, s_X4_init_1, s_X4_init_4, s_X4_init_4n, s_X4_init_4z, s_X4_init_5, s_X4_init_8, s_X4_init_9, s_X4_init_12, s_X4_init_12n, s_X4_init_15, s_X4_init_15n, s_X4_init_15z, s_X4_init_16, s_X4_init_19, s_X4_init_20, s_X4_init_23, s_X4_init_23n, s_X4_init_26, s_X4_init_26n, s_X4_init_26z, s_X4_init_27, s_X4_init_28, s_X4_init_31, s_X4_init_31n, s_X4_init_31z, s_X4_init_32, s_X4_init_34, s_X4_init_36, s_X4_init_36n, s_X4_init_39, s_X4_init_39n, s_X4_init_39z, s_X4_init_40, s_X4_init_42, s_X4_init_44, s_X4_init_44n, s_X4_init_47, s_X4_init_47n, s_X4_init_47z, s_X4_init_48, s_X4_init_51, s_X4_init_52, s_X4_init_55, s_X4_init_55n, s_X4_init_58, s_X4_init_58n, s_X4_init_58z, s_X4_init_59, s_X4_init_60, s_X4_init_63, s_X4_init_63n, s_X4_init_63z, s_X4_init_64, s_X4_init_65, s_X4_init_68, s_X4_init_68n, s_X4_init_68z, s_X4_init_69, s_X4_init_70, s_X4_init_73, s_X4_init_73n, s_X4_init_73z, s_X4_init_74, s_X4_init_75, s_X4_init_78, s_X4_init_78n, s_X4_init_78z, s_X4_init_79, s_X4_init_80, s_X4_init_83, s_X4_init_83n, s_X4_init_83z, s_X4_init_84, s_X4_init_85, s_X4_init_88, s_X4_init_88n, s_X4_init_88z, s_X4_init_89, s_X4_init_90, s_X4_init_93, s_X4_init_93n, s_X4_init_93z, s_X4_init_94, s_X4_init_95, s_X4_init_97, s_X4_init_99, s_X4_init_102, s_X1_init_0, s_X1_init_0n, s_X1_init_0z, s_X1_init_1, s_X1_init_4, s_X1_init_4n, s_X1_init_4z, s_X1_init_5, s_X1_init_8, s_X1_init_9, s_X1_init_12, s_X1_init_12n, s_X1_init_15, s_X1_init_15n, s_X1_init_15z, s_X1_init_16, s_X1_init_17, s_X1_init_20, s_Jx4a65c_init_da8c8_0, s_Jx4a65c_init_da8c8_0n, s_Jx4a65c_init_da8c8_0z, s_Jx4a65c_init_da8c8_1, s_Jx4a65c_init_da8c8_4, s_Jx4a65c_init_da8c8_4n, s_Jx4a65c_init_da8c8_4z, s_Jx4a65c_init_da8c8_5, s_Jx4a65c_init_da8c8_8, s_Jx4a65c_init_da8c8_8n, s_Jx4a65c_init_da8c8_11, s_Jxc12de_init_da8c8_0, s_Jxc12de_init_da8c8_0n, s_Jxc12de_init_da8c8_0z, s_Jxc12de_init_da8c8_1, s_Jxc12de_init_da8c8_4, s_Jxc12de_init_da8c8_4n, s_Jxc12de_init_da8c8_4z, s_Jxc12de_init_da8c8_5, s_Jxc12de_init_da8c8_6, s_Jxc12de_init_da8c8_9, s_Jxa1e45_init_da8c8_0, s_Jxa1e45_init_da8c8_0n, s_Jxa1e45_init_da8c8_0z, s_Jxa1e45_init_da8c8_1, s_Jxa1e45_init_da8c8_4, tl_some, tl_none, cv_int, cv_ref, cv_null, cv_long, cat_rf, jcv_nil, jcat_cons, jv_none, jv_int, jv_ref, jv_null, jw_rf, rf_some, rf_none, bz_0, bz_1, i1_0, i0_0, if_true, if_false, ite_self, List.nil_append, List.cons_append, Nat.reduceAdd, Nat.reduceLeDiff, Nat.zero_le, Nat.le_refl, and_self, and_true, true_and, not_true_eq_false, not_false_eq_true, reduceIte, h0, h6, g1, g2, g3, g4, g5, g6, n1, n2, n5, n6, n56, k1, e1]
    exact Iff.rfl
  refine S.trans ?_
  have h6' : jt (kG g t) a = some 6 := g6
  exact c_ctor2 (d := d + 1 + 1 + 1) h6' (if_pos ⟨rfl, rfl, rfl⟩)
end
def w0 (a t em : Nat) : Wd := (fun i => if i = 0 then a else t + (i - 1), fun _ => 0, fun _ => 0, fun _ => 0, em, 0, em, 0)
section
variable {sv : Nat → Value} {d t u : Nat} {g : jG} {I : tI} {J : tJ} {P : tP} {a em : Nat} {x y z : Int32}
/-- the start -/
theorem rel_new (h0 : sv 0 = .ref em) {mi : Nat} (h1 : sv 1 = .ref mi) (h6 : jt g a = some 6) (htg : ∀ b κ, jt g b = some κ → b < t) (h95 : jt g em = some 95) (hem0 : jn g em = 0) :
    Rel sv (w0 a t em) (t + 6) (kG g t) (ups (ups (ups (kI I a t) 6 0 a (pgH x)) 6 1 a (fsH x y)) 6 2 a (ftH x y z)) (kJ J t) (kP P a t em) (iA (pgH x) (fsH x y) (ftH x y z)) (fun _ => 0) 0 0 ∧ Inv (w0 a t em) (ups (ups (ups (kI I a t) 6 0 a (pgH x)) 6 1 a (fsH x y)) 6 2 a (ftH x y z)) (iA (pgH x) (fsH x y) (ftH x y z)) 0 ∧ Z0 (iA (pgH x) (fsH x y) (ftH x y z)) ∧ Z1 (iA (pgH x) (fsH x y) (ftH x y z)) ∧ Dg (w0 a t em) (kG g t) (iA (pgH x) (fsH x y) (ftH x y z)) ∧ gle g (kG g t) := by
  have hat : a < t := htg _ _ h6
  have hemt : em < t := htg _ _ h95
  have old : ∀ b κ, jt g b = some κ → jt (kG g t) b = some κ ∧ jn (kG g t) b = jn g b := fun b κ hb => by
    have := htg _ _ hb
    unfold kG
    simp only [jt_set, jn_set]
    rw [if_neg (by omega), if_neg (by omega), if_neg (by omega), if_neg (by omega), if_neg (by omega), if_neg (by omega), if_neg (by omega), if_neg (by omega), if_neg (by omega), if_neg (by omega), if_neg (by omega), if_neg (by omega)]
    exact ⟨hb, rfl⟩
  have t1 : jt (kG g t) t = some 1 := by unfold kG; simp [jt_set]
  have t2 : jt (kG g t) (t + 1) = some 1 := by unfold kG; simp [jt_set]
  have t3 : jt (kG g t) (t + 2) = some 60 ∧ jn (kG g t) (t + 2) = 6 := by unfold kG; simp [jt_set, jn_set]
  have t4 : jt (kG g t) (t + 3) = some 61 ∧ jn (kG g t) (t + 3) = 6 := by unfold kG; simp [jt_set, jn_set]
  have t5 : jt (kG g t) (t + 4) = some 3 := by unfold kG; simp [jt_set]
  have t6 : jt (kG g t) (t + 5) = some 1 := by unfold kG; simp [jt_set]
  have ng0 : ngA (iA (pgH x) (fsH x y) (ftH x y z)) = 0 := rfl
  have ns0 : nsA (iA (pgH x) (fsH x y) (ftH x y z)) = 0 := rfl
  have nc0 : ncA (iA (pgH x) (fsH x y) (ftH x y z)) = 0 := rfl
  have ln0 : ln (iA (pgH x) (fsH x y) (ftH x y z)) = 0 := rfl
  have i21 : iA (pgH x) (fsH x y) (ftH x y z) 7 21 = 0 := rfl
  obtain ⟨e1, e2⟩ := old _ _ h95
  obtain ⟨p, f, o, q1, q2, q3, q4, q5, q6, q7, q8, q9, -, -⟩ := dims x y z
  have lst : ∀ b, jt (kG g t) b = some 1 → (kP P a t em) 1 1 b = some em → (kI I a t) 1 2 b = 0 → Lst sv (kG g t) (ups (ups (ups (kI I a t) 6 0 a (pgH x)) 6 1 a (fsH x y)) 6 2 a (ftH x y z)) (kP P a t em) b em 0 0 (fun _ => 0) := fun b b1 b2 b3 => ⟨b1, b2, b3, by rw [e2]; exact hem0, Nat.le_refl 0, by omega, Or.inl ⟨rfl, e1, h0⟩, fun i hi => absurd hi (Nat.not_lt_zero i)⟩
  refine ⟨⟨⟨(old _ _ h6).1, ?_, ?_, ?_, ?_, ?_, ?_, ?_, ?_, ?_, ?_, ?_, ?_⟩, ⟨?_, ?_, t3.1, t3.2, t4.1, t4.2, fun k _ => ?_, fun k _ => ?_⟩, ⟨lst _ t1 ?_ ?_, fun i hi => absurd hi (Nat.not_lt_zero i), fun i j hi => absurd hi (Nat.not_lt_zero i), fun i j hi => absurd hi (Nat.not_lt_zero i)⟩, ⟨lst _ t2 ?_ ?_, fun i hi => absurd hi (Nat.not_lt_zero i), fun i j hi => absurd hi (Nat.not_lt_zero i)⟩, ⟨t5, ?_, ?_, em, 0, 0, fun _ => 0, fun _ => 0, lst _ t6 ?_ ?_, Or.inl (by omega), fun q hq => absurd hq (Nat.not_lt_zero q), fun q r hq => absurd hq (Nat.not_lt_zero q), by omega, Nat.le_refl 0, fun i hi => absurd hi (Nat.not_lt_zero i), rfl, rfl, fun _ => e1, fun _ => e1⟩, ⟨show t + (1 - 1) ≠ t + (2 - 1) by omega, show t + (1 - 1) ≠ t + (6 - 1) by omega, show t + (2 - 1) ≠ t + (6 - 1) by omega⟩, ?_, ⟨⟨rfl, by rw [ng0]; omega⟩, ⟨rfl, by rw [ns0]; omega⟩, ⟨rfl, by rw [nc0]; omega⟩, fun i => ⟨rfl, Nat.zero_le 10⟩, fun s s1 s2 => by rw [ns0] at s2; omega⟩, rfl, mi, h1⟩, ⟨⟨⟨p, f, o, q1, by omega, q4, by omega, by omega, q7, by omega⟩, fun gi g1 g2 => ?_, fun gi g1 g2 => ?_, fun a b g1 g2 => ?_⟩, fun j hj => ⟨rfl, rfl⟩, ⟨⟨fun s s1 s2 => ?_, fun t s s1 s2 => ?_⟩, fun gi g1 g2 => ?_⟩, ⟨?_, by omega, fun i hi => absurd hi (Nat.not_lt_zero i)⟩, ⟨0, rfl, by omega, Nat.zero_le _, fun h => absurd i21 h⟩, fun h => absurd i21 h, fun h => absurd i21 h⟩, fun j _ => ⟨rfl, rfl, rfl⟩, fun s s1 s2 => ?_, ⟨fun _ => e1, Or.inl (show (0 : Nat) ≤ 10 by omega), Or.inl (show (0 : Nat) ≤ 10 by omega)⟩, old⟩
  all_goals first
    | (rw [ng0] at g2; omega)
    | (rw [ng0] at g2; intros; omega)
    | (show ups _ 6 2 _ _ 6 15 _ = (0 : Int32); unfold kI kI1 w0; simp [ups_ap, upc_ap]; done)
    | (rw [ns0] at s2; omega)
    | (show kP P a t em _ _ _ = _; unfold kP kP1 w0; simp [ups_ap, upc_ap]; done)
    | (unfold kI kI1 w0; simp [ups_ap, upc_ap, iA]; done)
    | skip
  · intro b κ hb
    by_cases c : b < t
    · omega
    · have hn : ¬ jt g b = some κ := fun q => c (htg _ _ q)
      unfold kG at hb
      simp only [jt_set] at hb
      by_cases c0 : b = t + 5
      · omega
      rw [if_neg c0] at hb
      by_cases c1 : b = t + 4
      · omega
      rw [if_neg c1] at hb
      by_cases c2 : b = t + 3
      · omega
      rw [if_neg c2] at hb
      by_cases c3 : b = t + 2
      · omega
      rw [if_neg c3] at hb
      by_cases c4 : b = t + 1
      · omega
      rw [if_neg c4] at hb
      by_cases c5 : b = t
      · omega
      rw [if_neg c5] at hb
      exact absurd hb hn
end
