-- ===== the law: its loop, its start =====
section
variable {sv : Nat → Value} {d : Nat} {a m sc out N : Nat} {S : Nat → Int32}
theorem loop_cond {n : Nat} (hN : N < 100000) (hn : n < 100000) : Int32.ofNat N - 4 < nI n ↔ N < n + 4 := by
  have h1 : (Int32.ofNat N).toInt = (N : Int) := nI_toInt (n := N) (by omega)
  have h2 : (nI n).toInt = (n : Int) := nI_toInt (by omega)
  have h4 : (4 : Int32).toInt = 4 := rfl
  rw [i32_lt, Int32.toInt_sub, h1, h2, h4, Int.bmod_def]
  omega
theorem law_loop (hN : N ≤ 2051) {t0 u0 : Nat} : ∀ r c : Nat, c + r = 512 → ∀ (ω : Wd) (t u : Nat) (g : jG) (I : tI) (J : tJ) (P : tP) (A : Nat → Nat → Int32) (T : Nat → Int64) (tb ub st : Nat) (l5 l6 : Option Value), Lo sv a m sc out N S ω t g I J P A T tb ub st → t ≤ t0 + tb + 4 * c → u ≤ u0 + ub + 200 * c → st ≤ 20 * c → Ev sv (d + 14) (110, 53, [some (.ref sc), some (.ref a), some (.ref m), some (.ref out), some (.int (nI (3 + 4 * c))), l5, l6], []) (tv t u g I J P) (fun r M => r = some (.int 1) ∧ M.1 ≤ t0 + 8000 ∧ M.2.1 ≤ u0 + 700000) := by
  intro r
  induction r with
  | zero =>
    intro c hc ω t u g I J P A T tb ub st l5 l6 h b1 b2 b3
    obtain ⟨s1, s2, s3⟩ := h.2.2.2.1
    have hlt : Int32.ofNat N - 4 < nI (3 + 4 * c) := (loop_cond (by omega) (by omega)).mpr (by omega)
    refine s_L_law_53.mpr ?_
    simp only [s_L_law_55, s_L_law_55n, s_L_law_55z, s_L_law_56, s_L_law_57, s_L_law_58, s_L_law_59, s_L_law_636, s_L_law_637, tl_some, tl_none, cv_int, cv_ref, cv_null, cv_long, cat_rf, jcv_nil, jcat_cons, jv_none, jv_int, jv_ref, jv_null, jw_rf, rf_some, rf_none, bz_0, bz_1, i1_0, i0_0, if_true, if_false, ite_self, List.nil_append, List.cons_append, Nat.reduceAdd, Nat.reduceLeDiff, Nat.zero_le, Nat.le_refl, and_self, and_true, true_and, not_true_eq_false, not_false_eq_true, reduceIte, s1, s2, hlt]
    obtain ⟨-, -, -, he, hc0, nsh, ha, hb, p4, p5, p6, p7, p8, p9, p10, p11, p12, -⟩ := h.1.1.2.2.2.2.1
    refine ⟨?_, ?_⟩
    · show t ≤ _
      omega
    · show u ≤ _
      omega
  | succ r ih =>
    intro c hc ω t u g I J P A T tb ub st l5 l6 h b1 b2 b3
    obtain ⟨s1, s2, s3⟩ := h.2.2.2.1
    by_cases hlt : Int32.ofNat N - 4 < nI (3 + 4 * c)
    · refine s_L_law_53.mpr ?_
      simp only [s_L_law_55, s_L_law_55n, s_L_law_55z, s_L_law_56, s_L_law_57, s_L_law_58, s_L_law_59, s_L_law_636, s_L_law_637, tl_some, tl_none, cv_int, cv_ref, cv_null, cv_long, cat_rf, jcv_nil, jcat_cons, jv_none, jv_int, jv_ref, jv_null, jw_rf, rf_some, rf_none, bz_0, bz_1, i1_0, i0_0, if_true, if_false, ite_self, List.nil_append, List.cons_append, Nat.reduceAdd, Nat.reduceLeDiff, Nat.zero_le, Nat.le_refl, and_self, and_true, true_and, not_true_eq_false, not_false_eq_true, reduceIte, s1, s2, hlt]
      obtain ⟨-, -, -, he, hc0, nsh, ha, hb, p4, p5, p6, p7, p8, p9, p10, p11, p12, -⟩ := h.1.1.2.2.2.2.1
      refine ⟨?_, ?_⟩
      · show t ≤ _
        omega
      · show u ≤ _
        omega
    · have hn : ¬ N < 3 + 4 * c + 4 := fun q => hlt ((loop_cond (by omega) (by omega)).mpr q)
      refine s_L_law_53.mpr ?_
      simp only [s_L_law_55, s_L_law_55n, s_L_law_55z, s_L_law_56, s_L_law_57, s_L_law_58, s_L_law_59, tl_some, tl_none, cv_int, cv_ref, cv_null, cv_long, cat_rf, jcv_nil, jcat_cons, jv_none, jv_int, jv_ref, jv_null, jw_rf, rf_some, rf_none, bz_0, bz_1, i1_0, i0_0, if_true, if_false, ite_self, List.nil_append, List.cons_append, Nat.reduceAdd, Nat.reduceLeDiff, Nat.zero_le, Nat.le_refl, and_self, and_true, true_and, not_true_eq_false, not_false_eq_true, reduceIte, s1, s2, hlt]
      refine law_turn h (by omega) (by omega) (by omega) (fun ω' t' u' g' I' J' P' A' T' tb' ub' st' k5 k6 h' m1 m2 m3 m4 m5 => ?_)
      have e : nI (3 + 4 * c) + 4 = nI (3 + 4 * (c + 1)) := by
        rw [show 3 + 4 * (c + 1) = 3 + 4 * c + 4 from by omega]
        exact nI_add (3 + 4 * c) 4
      simp only [s_L_law_630, s_L_law_633, tl_some, tl_none, cv_int, cv_ref, cv_null, cv_long, cat_rf, jcv_nil, jcat_cons, jv_none, jv_int, jv_ref, jv_null, jw_rf, rf_some, rf_none, bz_0, bz_1, i1_0, i0_0, if_true, if_false, ite_self, List.nil_append, List.cons_append, Nat.reduceAdd, Nat.reduceLeDiff, Nat.zero_le, Nat.le_refl, and_self, and_true, true_and, not_true_eq_false, not_false_eq_true, reduceIte, e]
      exact ih (c + 1) (by omega) ω' t' u' g' I' J' P' A' T' tb' ub' st' k5 k6 h' (by omega) (by omega) (by omega)
end
section
variable {sv : Nat → Value} {d t u : Nat} {Q : Option Value → jM → Prop} {g : jG} {I : tI} {J : tJ} {P : tP} {sc em mi N : Nat}
def sC (I : tI) (sc N k : Nat) : Int32 := if k < N then I 94 k sc else 0
theorem c_lcell {k : Nat} (h1 : jt g sc = some 94) (h2 : jn g sc = N) (hk : k < 1000) (hN : N < 100000) : Ev sv d (108, 0, [some (.ref sc), some (.int (nI k))], []) (tv t u g I J P) Q ↔ Q (some (.int (sC I sc N k))) (tv t u g I J P) := by
  unfold sC
  have q0 : (nI k).toNatClampNeg = k := nI_clamp (by omega)
  by_cases c : k < N
  · have e : nI k < Int32.ofNat N := nI_lt (b := N) c (by omega)
    have j0 : jin (nI k) N = true := jin_nI c (by omega)
    simp only [s_L_cell_0, s_L_cell_1, s_L_cell_1n, s_L_cell_1z, s_L_cell_2, s_L_cell_3, s_L_cell_6, s_L_cell_6n, s_L_cell_6z, s_L_cell_7, s_L_cell_8, s_L_cell_9, s_L_cell_12, s_L_cell_13, tl_some, tl_none, cv_int, cv_ref, cv_null, cv_long, cat_rf, jcv_nil, jcat_cons, jv_none, jv_int, jv_ref, jv_null, jw_rf, rf_some, rf_none, bz_0, bz_1, i1_0, i0_0, if_true, if_false, ite_self, List.nil_append, List.cons_append, Nat.reduceAdd, Nat.reduceLeDiff, Nat.zero_le, Nat.le_refl, and_self, and_true, true_and, not_true_eq_false, not_false_eq_true, reduceIte, h1, h2, e, j0, q0, c]
  · have e : ¬ nI k < Int32.ofNat N := nI_nlt (b := N) (by omega) (by omega)
    simp only [s_L_cell_0, s_L_cell_1, s_L_cell_1n, s_L_cell_1z, s_L_cell_2, s_L_cell_3, s_L_cell_6, s_L_cell_6n, s_L_cell_6z, s_L_cell_7, s_L_cell_8, s_L_cell_9, s_L_cell_12, s_L_cell_13, tl_some, tl_none, cv_int, cv_ref, cv_null, cv_long, cat_rf, jcv_nil, jcat_cons, jv_none, jv_int, jv_ref, jv_null, jw_rf, rf_some, rf_none, bz_0, bz_1, i1_0, i0_0, if_true, if_false, ite_self, List.nil_append, List.cons_append, Nat.reduceAdd, Nat.reduceLeDiff, Nat.zero_le, Nat.le_refl, and_self, and_true, true_and, not_true_eq_false, not_false_eq_true, reduceIte, h1, h2, e, c]
/-- memory as the loop begins -/
def g1L (g : jG) (t : Nat) : jG := jgset g t (6, 16)
def g2L (g : jG) (t : Nat) : jG := kG (g1L g t) (t + 1)
def g3L (g : jG) (t : Nat) : jG := jgset (g2L g t) (t + 7) (7, 29)
def g4L (g : jG) (t : Nat) : jG := mG (g3L g t) (t + 7)
def g5L (g : jG) (t : Nat) : jG := jgset (g4L g t) (t + 23) (79, 1)
def I2L (I : tI) (t : Nat) (x y z : Int32) : tI := ups (ups (ups (kI (upc I 6 t (fun _ => 0)) t (t + 1)) 6 0 t (pgH x)) 6 1 t (fsH x y)) 6 2 t (ftH x y z)
def I4L (I : tI) (t : Nat) (x y z : Int32) : tI := ups (ups (ups (mI (upc (I2L I t x y z) 7 (t + 7) (fun _ => 0)) (t + 7)) 7 1 (t + 7) (pgH x)) 7 2 (t + 7) (fsH x y)) 7 3 (t + 7) (ftH x y z)
def I5L (I : tI) (t : Nat) (x y z : Int32) : tI := upc (I4L I t x y z) 79 (t + 23) (fun _ => 0)
def J2L (J : tJ) (t : Nat) : tJ := kJ (upc J 6 t (fun _ => 0)) (t + 1)
def J4L (J : tJ) (t : Nat) : tJ := mJ (upc (J2L J t) 7 (t + 7) (fun _ => 0)) (t + 7)
def J5L (J : tJ) (t : Nat) : tJ := upc (J4L J t) 79 (t + 23) (fun _ => 0)
def P2L (P : tP) (t em : Nat) : tP := kP (upc P 6 t (fun _ => none)) t (t + 1) em
def P4L (P : tP) (t em : Nat) : tP := mP (upc (P2L P t em) 7 (t + 7) (fun _ => none)) (t + 7)
def P5L (P : tP) (t em : Nat) : tP := upc (P4L P t em) 79 (t + 23) (fun _ => none)
theorem kI_94 {a t k b : Nat} : kI I a t 94 k b = I 94 k b := by
  unfold kI kI1
  simp [ups_ap, upc_ap]
theorem I2L_94 {x y z : Int32} {k b : Nat} : I2L I t x y z 94 k b = I 94 k b := by
  unfold I2L
  rw [ups_ap, if_neg (fun q => absurd q.1 (by decide)), ups_ap, if_neg (fun q => absurd q.1 (by decide)), ups_ap, if_neg (fun q => absurd q.1 (by decide)), kI_94, upc_ap, if_neg (fun q => absurd q.1 (by decide))]
theorem I5L_94 {x y z : Int32} {k b : Nat} : I5L I t x y z 94 k b = I 94 k b := by
  unfold I5L I4L mI
  simp only [ups_ap, upc_ap]
  simp [I2L_94]
theorem law_run (h0 : sv 0 = .ref em) (h1 : sv 1 = .ref mi) (hsc : jt g sc = some 94) (hscN : jn g sc = N) (hN : N ≤ 2051) (h95 : jt g em = some 95) (hem : jn g em = 0) (htg : ∀ b κ, jt g b = some κ → b < t) : Ev sv (d + 14) (110, 0, [some (.ref sc), none, none, none, none, none, none], []) (tv t u g I J P) (fun r M => r = some (.int 1) ∧ M.1 ≤ t + 8100 ∧ M.2.1 ≤ u + 1201000) := by
  have hg1 : gle g (g1L g t) := gle_new htg
  have tg1 : ∀ b κ, jt (g1L g t) b = some κ → b < t + 1 := fun b κ hb => by
    unfold g1L at hb
    rw [jt_set] at hb
    by_cases c : b = t
    · omega
    · rw [if_neg c] at hb
      have := htg _ _ hb
      omega
  have t61 : jt (g1L g t) t = some 6 := by unfold g1L; rw [jt_set, if_pos rfl]
  generalize hx : sC I sc N 0 = x
  generalize hy : sC I sc N 1 = y
  generalize hz : sC I sc N 2 = z
  obtain ⟨rel, inv, z0, z1, dg, hg2⟩ := rel_new (sv := sv) (t := t + 1) (g := g1L g t) (I := upc I 6 t (fun _ => 0)) (J := upc J 6 t (fun _ => 0)) (P := upc P 6 t (fun _ => none)) (a := t) (x := x) (y := y) (z := z) h0 h1 t61 tg1 ((hg1 _ _ h95).1) (by rw [(hg1 _ _ h95).2]; exact hem)
  have tg2 := rel.2.2.2.2.2.2.1
  have hg2' : gle (g1L g t) (g2L g t) := hg2
  have tg2' : ∀ b κ, jt (g2L g t) b = some κ → b < t + 7 := fun b κ hb => by have := tg2 b κ hb; omega
  have hg3 : gle (g2L g t) (g3L g t) := gle_new tg2'
  have t73 : jt (g3L g t) (t + 7) = some 7 := by unfold g3L; rw [jt_set, if_pos rfl]
  have tg3 : ∀ b κ, jt (g3L g t) b = some κ → b < t + 7 + 1 := fun b κ hb => by
    unfold g3L at hb
    rw [jt_set] at hb
    by_cases c : b = t + 7
    · omega
    · rw [if_neg c] at hb
      have := tg2' _ _ hb
      omega
  obtain ⟨hg4, tg4⟩ := mG_le tg3
  have hg4' : gle (g3L g t) (g4L g t) := hg4
  have tg4' : ∀ b κ, jt (g4L g t) b = some κ → b < t + 23 := fun b κ hb => by have := tg4 b κ hb; omega
  have hg5 : gle (g4L g t) (g5L g t) := gle_new tg4'
  have tg5 : ∀ b κ, jt (g5L g t) b = some κ → b < t + 24 := fun b κ hb => by
    unfold g5L at hb
    rw [jt_set] at hb
    by_cases c : b = t + 23
    · omega
    · rw [if_neg c] at hb
      have := tg4' _ _ hb
      omega
  have sc1 := hg1 _ _ hsc
  have sc2 := hg2' _ _ sc1.1
  have sc3 := hg3 _ _ sc2.1
  have sc4 := hg4' _ _ sc3.1
  have sc5 := hg5 _ _ sc4.1
  have n1 : jn (g1L g t) sc = N := sc1.2.trans hscN
  have n3 : jn (g3L g t) sc = N := sc3.2.trans (sc2.2.trans n1)
  have ce := fun (k : Nat) (hk : k < 1000) (Q : Option Value → jM → Prop) => c_lcell (sv := sv) (d := d + 13) (t := t + 1) (u := u + 16) (g := g1L g t) (I := upc I 6 t (fun _ => 0)) (J := upc J 6 t (fun _ => 0)) (P := upc P 6 t (fun _ => none)) (Q := Q) (k := k) sc1.1 n1 hk (by omega)
  have cf := fun (k : Nat) (hk : k < 1000) (Q : Option Value → jM → Prop) => c_lcell (sv := sv) (d := d + 13) (t := t + 7 + 1) (u := u + 16 + 23 + 29) (g := g3L g t) (I := upc (I2L I t x y z) 7 (t + 7) (fun _ => 0)) (J := upc (J2L J t) 7 (t + 7) (fun _ => 0)) (P := upc (P2L P t em) 7 (t + 7) (fun _ => none)) (Q := Q) (k := k) sc3.1 n3 hk (by omega)
  have ve : ∀ k, sC (upc I 6 t (fun _ => 0)) sc N k = sC I sc N k := fun k => by
    have e : upc I 6 t (fun _ => 0) 94 k sc = I 94 k sc := if_neg (fun q => absurd q.1 (by decide))
    unfold sC
    rw [e]
  have vf : ∀ k, sC (upc (I2L I t x y z) 7 (t + 7) (fun _ => 0)) sc N k = sC I sc N k := fun k => by
    have e : upc (I2L I t x y z) 7 (t + 7) (fun _ => 0) 94 k sc = I 94 k sc := (if_neg (fun q => absurd q.1 (by decide))).trans I2L_94
    unfold sC
    rw [e]
  have e0 := ce 0 (by omega)
  have e1 := ce 1 (by omega)
  have e2 := ce 2 (by omega)
  have f0 := cf 0 (by omega)
  have f1 := cf 1 (by omega)
  have f2 := cf 2 (by omega)
  rw [ve] at e0 e1 e2
  rw [vf] at f0 f1 f2
  rw [hx] at e0 f0
  rw [hy] at e1 f1
  rw [hz] at e2 f2
  have y0 : nI 0 = 0 := rfl
  have y1 : nI 1 = 1 := rfl
  have y2 : nI 2 = 2 := rfl
  rw [y0] at e0 f0
  rw [y1] at e1 f1
  rw [y2] at e2 f2
  have k1 := fun (Q : Option Value → jM → Prop) => c_ctor (sv := sv) (d := d + 8) (t := t + 1) (u := u + 16) (g := g1L g t) (I := upc I 6 t (fun _ => 0)) (J := upc J 6 t (fun _ => 0)) (P := upc P 6 t (fun _ => none)) (a := t) (x := x) (y := y) (z := z) (Q := Q) h0 t61 (by omega)
  have k2 := fun (Q : Option Value → jM → Prop) => m_ctor (sv := sv) (d := d + 12) (u := u + 16 + 23 + 29) (m := t + 7) (g := g3L g t) (I := upc (I2L I t x y z) 7 (t + 7) (fun _ => 0)) (J := upc (J2L J t) 7 (t + 7) (fun _ => 0)) (P := upc (P2L P t em) 7 (t + 7) (fun _ => none)) (x := x) (y := y) (z := z) (Q := Q) t73
  have S1 : ∀ Q : Option Value → jM → Prop, Ev sv (d + 14) (110, 0, [some (.ref sc), none, none, none, none, none, none], []) (tv t u g I J P) Q ↔ Ev sv (d + 14) (110, 23, [some (.ref sc), some (.ref t), none, none, none, none, none], []) (tv (t + 7) (u + 16 + 23) (g2L g t) (I2L I t x y z) (J2L J t) (P2L P t em)) Q := fun Q => by
    have gg : jgset g t (6, 16) = g1L g t := rfl
    simp only [s_L_law_0, s_L_law_3, s_L_law_4, s_L_law_4n, s_L_law_4z, s_L_law_5, s_L_law_6, s_L_law_9, s_L_law_9n, s_L_law_9z, s_L_law_10, s_L_law_11, s_L_law_14, s_L_law_14n, s_L_law_14z, s_L_law_15, s_L_law_16, s_L_law_19, s_L_law_22, s_L_law_22n, s_L_law_22z, tl_some, tl_none, cv_int, cv_ref, cv_null, cv_long, cat_rf, jcv_nil, jcat_cons, jv_none, jv_int, jv_ref, jv_null, jw_rf, rf_some, rf_none, bz_0, bz_1, i1_0, i0_0, if_true, if_false, ite_self, List.nil_append, List.cons_append, Nat.reduceAdd, Nat.reduceLeDiff, Nat.zero_le, Nat.le_refl, and_self, and_true, true_and, not_true_eq_false, not_false_eq_true, reduceIte, gg, e0, e1, e2, k1]
    exact Iff.rfl
  have S2 : ∀ Q : Option Value → jM → Prop, Ev sv (d + 14) (110, 23, [some (.ref sc), some (.ref t), none, none, none, none, none], []) (tv (t + 7) (u + 16 + 23) (g2L g t) (I2L I t x y z) (J2L J t) (P2L P t em)) Q ↔ Ev sv (d + 14) (110, 46, [some (.ref sc), some (.ref t), some (.ref (t + 7)), none, none, none, none], []) (tv (t + 7 + 16) (mU (u + 16 + 23 + 29)) (g4L g t) (I4L I t x y z) (J4L J t) (P4L P t em)) Q := fun Q => by
    have gg : jgset (g2L g t) (t + 7) (7, 29) = g3L g t := rfl
    simp only [s_L_law_23, s_L_law_26, s_L_law_27, s_L_law_27n, s_L_law_27z, s_L_law_28, s_L_law_29, s_L_law_32, s_L_law_32n, s_L_law_32z, s_L_law_33, s_L_law_34, s_L_law_37, s_L_law_37n, s_L_law_37z, s_L_law_38, s_L_law_39, s_L_law_42, s_L_law_45, s_L_law_45n, s_L_law_45z, tl_some, tl_none, cv_int, cv_ref, cv_null, cv_long, cat_rf, jcv_nil, jcat_cons, jv_none, jv_int, jv_ref, jv_null, jw_rf, rf_some, rf_none, bz_0, bz_1, i1_0, i0_0, if_true, if_false, ite_self, List.nil_append, List.cons_append, Nat.reduceAdd, Nat.reduceLeDiff, Nat.zero_le, Nat.le_refl, and_self, and_true, true_and, not_true_eq_false, not_false_eq_true, reduceIte, gg, f0, f1, f2, k2]
    exact Iff.rfl
  have S3 : ∀ Q : Option Value → jM → Prop, Ev sv (d + 14) (110, 46, [some (.ref sc), some (.ref t), some (.ref (t + 7)), none, none, none, none], []) (tv (t + 7 + 16) (mU (u + 16 + 23 + 29)) (g4L g t) (I4L I t x y z) (J4L J t) (P4L P t em)) Q ↔ Ev sv (d + 14) (110, 53, [some (.ref sc), some (.ref t), some (.ref (t + 7)), some (.ref (t + 23)), some (.int 3), none, none], []) (tv (t + 24) (mU (u + 16 + 23 + 29) + 1) (g5L g t) (I5L I t x y z) (J5L J t) (P5L P t em)) Q := fun Q => by
    simp only [s_L_law_46, s_L_law_47, s_L_law_49, s_L_law_49n, s_L_law_49z, s_L_law_50, s_L_law_51, tl_some, tl_none, cv_int, cv_ref, cv_null, cv_long, cat_rf, jcv_nil, jcat_cons, jv_none, jv_int, jv_ref, jv_null, jw_rf, rf_some, rf_none, bz_0, bz_1, i1_0, i0_0, if_true, if_false, ite_self, List.nil_append, List.cons_append, Nat.reduceAdd, Nat.reduceLeDiff, Nat.zero_le, Nat.le_refl, and_self, and_true, true_and, not_true_eq_false, not_false_eq_true, reduceIte]
    exact Iff.rfl
  refine (S1 _).mpr ((S2 _).mpr ((S3 _).mpr ?_))
  have lo : ∀ κ, κ < 64 → κ ≠ 7 → I5L I t x y z κ = I2L I t x y z κ ∧ J5L J t κ = J2L J t κ ∧ P5L P t em κ = P2L P t em κ := fun κ p1 p2 => by
    obtain ⟨q1, q2, q3⟩ := mnew_lo (I := upc (I2L I t x y z) 7 (t + 7) (fun _ => 0)) (J := upc (J2L J t) 7 (t + 7) (fun _ => 0)) (P := upc (P2L P t em) 7 (t + 7) (fun _ => none)) (m := t + 7) (x := x) (y := y) (z := z) p1 p2
    rw [upc_o p2] at q1 q2 q3
    exact ⟨(upc_o (by omega)).trans q1, (upc_o (by omega)).trans q2, (upc_o (by omega)).trans q3⟩
  have hgle : gle (g2L g t) (g5L g t) := (hg3.tr hg4').tr hg5
  have relN : Rel sv (w0 t (t + 1) em) (t + 24) (g5L g t) (I5L I t x y z) (J5L J t) (P5L P t em) (iA (pgH x) (fsH x y) (ftH x y z)) (fun _ => 0) 0 0 := rel.env hgle tg5 lo
  have mov := mov_new (m := t + 7) (I := upc (I2L I t x y z) 7 (t + 7) (fun _ => 0)) (I0 := I2L I t x y z) (x := x) (y := y) (z := z) rfl
  have hLo : Lo sv t (t + 7) sc (t + 23) N (fun k => I 94 k sc) (w0 t (t + 1) em) (t + 24) (g5L g t) (I5L I t x y z) (J5L J t) (P5L P t em) (iA (pgH x) (fsH x y) (ftH x y z)) (fun _ => 0) 0 0 0 := by
    refine ⟨⟨relN, inv.env (lo 2 (by decide) (by decide)).1 (lo 6 (by decide) (by decide)).1, z0, z1, dg.env hgle⟩, ⟨(mlay_new t73).env hg5 (upc_o (by decide)), ovl_self (fun κ k hκ => ?_), ovJ_self (fun k => ?_)⟩, rfl, ⟨sc5.1, sc5.2.trans (sc4.2.trans n3), fun k => I5L_94⟩, ?_, ?_⟩
    · have hk : κ ≠ 79 := fun q => by rw [q] at hκ; cases hκ
      show upc (I4L I t x y z) 79 (t + 23) _ κ k _ = _
      rw [upc_ap, if_neg (fun q => hk q.1)]
      show I4L I t x y z κ k _ = _
      have : I4L I t x y z κ k (madr (t + 7) κ) = ovl (I4L I t x y z) (t + 7) (iA (pgH x) (fsH x y) (ftH x y z)) κ k (madr (t + 7) κ) := by
        have e : ovl (I4L I t x y z) (t + 7) (iA (pgH x) (fsH x y) (ftH x y z)) = I4L I t x y z := mov
        rw [e]
      rw [this]
      exact ovl_r hκ
    · show upc (J4L J t) 79 (t + 23) _ 77 k _ = _
      rw [upc_ap, if_neg (fun q => absurd q.1 (by decide))]
      have e : ovJ (J4L J t) (t + 7) (fun _ => 0) = J4L J t := mov_newJ
      rw [← e]
      exact if_pos ⟨rfl, rfl⟩
    · unfold g5L; rw [jt_set, if_pos rfl]
    · unfold g5L; rw [jn_set, if_pos rfl]
  refine Ev.mono (law_loop (d := d) hN (t0 := t + 24) (u0 := mU (u + 16 + 23 + 29) + 1) 512 0 (by omega) _ _ _ _ _ _ _ _ _ _ _ _ none none hLo (by omega) (by omega) (by omega)) (Nat.le_refl _) (fun r M h => ⟨h.1, by have := h.2.1; omega, by have := h.2.2; rw [mU_eq] at this; omega⟩)
end
