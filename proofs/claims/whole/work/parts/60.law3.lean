-- ===== the law: its at, and its loop =====
section
variable {sv : Nat → Value} {d t u : Nat} {Q : Option Value → jM → Prop} {g : jG} {I : tI} {J : tJ} {P : tP} {A : Nat → Nat → Int32} {T : Nat → Int64} {ω : Wd} {tb ub st a m sc out N n : Nat} {S : Nat → Int32} {l0 l1 l2 l3 l4 l5 l6 : Option Value} {v x y : Int32} {V : Int64} {s : List Value} {o b pr : Nat}
theorem jno_tv (h6 : jt g o = some 6) (h8 : P 6 8 o = some pr) (h3 : jt g pr = some 3) : jno (tv t u g I J P) o x y = decide (x < 0 ∨ ¬ x < I 3 1 pr ∨ y < 0 ∨ ¬ y < 5) := by
  obtain ⟨⟨κ, n⟩, q1, q2⟩ := Option.map_eq_some_iff.mp h6
  obtain ⟨⟨κ', n'⟩, q3, q4⟩ := Option.map_eq_some_iff.mp h3
  dsimp only at q2 q4
  subst q2 q4
  have e1 : tV I J P 6 8 o = .ref pr := by rw [tV_a rfl, h8]; rfl
  have e2 : tV I J P 3 1 pr = .int (I 3 1 pr) := tV_i rfl
  simp only [jno, tv, q1, e1, q3, e2]
theorem s_L_law_462t (hno : jno (tv t u g I J P) o x y = true) (hc : jcat s ≤ 8) : Ev sv (d + 10) (110, 462, [l0, l1, l2, l3, l4, l5, l6], .ref b :: .int y :: .int x :: .ref o :: s) (tv t u g I J P) Q ↔ Ev sv (d + 10) (110, 465, [l0, l1, l2, l3, l4, l5, l6], .int 1 :: s) (tv (t + 1) (u + 6) g I J P) Q := by
  refine Ev_next (b := 10) (jstep_of (h_L_law dL_law_462) ?_) (Nat.le_add_left 10 d)
  have e : jlt 110 462 [l0, l1, l2, l3, l4, l5, l6] (.invokestatic 66) (.ref b :: .int y :: .int x :: .ref o :: s) (tv t u g I J P) = some (.inl (10, (110, 465, [l0, l1, l2, l3, l4, l5, l6], .int 1 :: s), tv (t + 1) (u + 6) g I J P)) := by
    show (if (110 : Nat) = 110 ∧ jcat s ≤ 8 then (if jno (tv t u g I J P) o x y = true then _ else _) else _) = _
    rw [if_pos ⟨rfl, hc⟩, if_pos hno]
    rfl
  exact e
theorem s_L_law_462c (hno : jno (tv t u g I J P) o x y = false) (hc : jcat s ≤ 8) : Ev sv (d + 1) (110, 462, [l0, l1, l2, l3, l4, l5, l6], .ref b :: .int y :: .int x :: .ref o :: s) (tv t u g I J P) Q ↔ Ev sv d (109, 0, [some (.ref o), some (.int x), some (.int y), some (.ref b), none], []) (tv t u g I J P) (fun r M1 => Ev sv (d + 1) (110, 465, [l0, l1, l2, l3, l4, l5, l6], r.toList ++ s) M1 Q) := by
  refine Ev_call (Fr := (110, 465, [l0, l1, l2, l3, l4, l5, l6], s)) (jstep_of (h_L_law dL_law_462) ?_)
  have e : jlt 110 462 [l0, l1, l2, l3, l4, l5, l6] (.invokestatic 66) (.ref b :: .int y :: .int x :: .ref o :: s) (tv t u g I J P) = some (.inr (.inr ((109, 0, [some (.ref o), some (.int x), some (.int y), some (.ref b), none], []), (110, 465, [l0, l1, l2, l3, l4, l5, l6], s)))) := by
    show (if (110 : Nat) = 110 ∧ jcat s ≤ 8 then (if jno (tv t u g I J P) o x y = true then _ else _) else _) = _
    rw [if_pos ⟨rfl, hc⟩, if_neg (by rw [hno]; decide)]
  exact e
theorem lt5_4 : ¬ y < 5 ↔ 4 < y := by
  have e5 : (5 : Int32).toInt = 5 := rfl
  have e4 : (4 : Int32).toInt = 4 := rfl
  constructor
  · intro h
    refine i32_lt.mpr ?_
    have : ¬ y.toInt < (5 : Int32).toInt := fun q => h (i32_lt.mpr q)
    omega
  · intro h q
    have h1 := i32_lt.mp h
    have h2 := i32_lt.mp q
    omega
/-- the law's own at, where there is such a line -/
theorem c_lawAt (hR : Rel sv ω t g I J P A T tb ub) (hb : ln A ≤ 100000) (hno : ¬ noAt A x y) (o1 : jt g out = some 79) (o2 : jn g out = 1) : Ev sv (d + 5) (109, 0, [some (.ref (ω.1 0)), some (.int x), some (.int y), some (.ref out), none], []) (tv t u g I J P) Q ↔ Q (some (.int 0)) (tv t u g I (ups J 79 0 out (A 78 (5 * x.toNatClampNeg + y.toNatClampNeg)).toInt64) P) := by
  have c1 := hR.1.1
  have hat := fun (Q : Option Value → jM → Prop) => c_at (Q := Q) (sv := sv) (d := d) (u := u) (x := x) (y := y) hR hb hno
  have j0 : jin 0 (jn g out) = true := by rw [o2]; rfl
  have q0 : (0 : Int32).toNatClampNeg = 0 := rfl
  simp only [s_L_at_0, s_L_at_0n, s_L_at_0z, s_L_at_1, s_L_at_2, s_L_at_2n, s_L_at_2z, s_L_at_3, s_L_at_4, s_L_at_5, s_L_at_8, s_L_at_9, s_L_at_10, s_L_at_17, s_L_at_18, tl_some, tl_none, cv_int, cv_ref, cv_null, cv_long, cat_rf, jcv_nil, jcat_cons, jv_none, jv_int, jv_ref, jv_null, jw_rf, rf_some, rf_none, bz_0, bz_1, i1_0, i0_0, if_true, if_false, ite_self, List.nil_append, List.cons_append, Nat.reduceAdd, Nat.reduceLeDiff, Nat.zero_le, Nat.le_refl, and_self, and_true, true_and, not_true_eq_false, not_false_eq_true, reduceIte, c1, hat, o1, j0, q0]
theorem Rel.c1 (hR : Rel sv ω t g I J P A T tb ub) : Rel sv ω t g I J P (upA A 7 0 1) T tb ub := hR.scal hR.1 (fun _ _ => rfl) (fun κ j h1 h2 => by
  rw [upA_ap, if_neg (fun q => h1 q.1)]) (fs_up (fs_rf A) rfl) rfl
theorem Inv.c1 (h : Inv ω I A st) : Inv ω I (upA A 7 0 1) st := by
  obtain ⟨hp, hv, hS, hT, hn, hB, hRI⟩ := h
  have f : fr A (upA A 7 0 1) := fr_up (fr_rf A) rfl
  exact ⟨f.wp hp, f.v0 hv, f.fs.ws hS, hT, hn, hB, hRI⟩
theorem law_at (h : Lo sv a m sc out N S ω t g I J P A T tb ub st) (hn : n + 3 < N) (hN : N < 100000) (K : LK sv d Q a m sc out N n S t u tb ub st) : Ev sv (d + 14) (110, 448, [some (.ref sc), some (.ref a), some (.ref m), some (.ref out), some (.int (nI n)), l5, l6], []) (tv t u g I J P) Q := by
  have h0 := h
  obtain ⟨⟨hR, hV, hZ, hZ1, hD⟩, ⟨hL, hO, hOJ⟩, ha, ⟨s1, s2, s3⟩, o1, o2⟩ := h
  subst ha
  have c1 := hR.1.1
  have hl : LnA A := hR.2.2.2.2.2.2.2.2.1
  have hb : ln A ≤ 100000 := by
    obtain ⟨k, -, k2, k3, -⟩ := hV.2.2.2.2.1
    omega
  have j1 : jin (nI (n + 1)) N = true := jin_nI (by omega) (by omega)
  have j2 : jin (nI (n + 2)) N = true := jin_nI (by omega) (by omega)
  have j3 : jin (nI (n + 3)) N = true := jin_nI (by omega) (by omega)
  have e1 : nI n + 1 = nI (n + 1) := nI_add n 1
  have e2 : nI n + 2 = nI (n + 2) := nI_add n 2
  have e3 : nI n + 3 = nI (n + 3) := nI_add n 3
  have q1 : (nI (n + 1)).toNatClampNeg = n + 1 := nI_clamp (by omega)
  have q2 : (nI (n + 2)).toNatClampNeg = n + 2 := nI_clamp (by omega)
  have q3 : (nI (n + 3)).toNatClampNeg = n + 3 := nI_clamp (by omega)
  have hj := jno_tv (t := t) (u := u) (g := g) (I := I) (J := J) (P := P) (x := S (n + 1)) (y := S (n + 2)) c1 hR.1.2.2.2.1 hR.2.2.2.2.1.1
  rw [hR.2.2.2.2.1.2.2.1] at hj
  have hcm := hL.1
  by_cases hno : noAt A (S (n + 1)) (S (n + 2))
  · have hj1 := hj.trans (decide_eq_true hno)
    have hno' : S (n + 1) < 0 ∨ ¬ S (n + 1) < A 7 28 ∨ S (n + 2) < 0 ∨ 4 < S (n + 2) := by
      rcases hno with q | q | q | q
      · exact Or.inl q
      · exact Or.inr (Or.inl q)
      · exact Or.inr (Or.inr (Or.inl q))
      · exact Or.inr (Or.inr (Or.inr (lt5_4.mp q)))
    have hm := fun (Q : Option Value → jM → Prop) => m_at (Q := Q) (sv := sv) (d := d + 13) (t := t + 1) (u := u + 6) (I := I) (J := J) (P := P) (A := A) (x := S (n + 1)) (y := S (n + 2)) hL hl hb
    have hth := fun (Q : Option Value → jM → Prop) => m_thrown (Q := Q) (sv := sv) (d := d + 13) (t := t + 1) (u := u + 6) (I := I) (J := J) (P := P) (A := upA A 7 0 1) hL
    have e70 : upA A 7 0 1 7 0 = 1 := rfl
    rw [hO] at hm
    have h10 : ¬ (1 : Int32) = 0 := by decide
    have hrow := fun (Q : Option Value → jM → Prop) => s_L_law_462t (sv := sv) (d := d + 4) (Q := Q) (l0 := some (.ref sc)) (l1 := some (.ref (ω.1 0))) (l2 := some (.ref m)) (l3 := some (.ref out)) (l4 := some (.int (nI n))) (l5 := l5) (l6 := l6) (b := out) (s := []) hj1 (by decide)
    simp only [s_L_law_448, s_L_law_448n, s_L_law_448z, s_L_law_449, s_L_law_449n, s_L_law_449z, s_L_law_450, s_L_law_452, s_L_law_453, s_L_law_454, s_L_law_455, s_L_law_455n, s_L_law_455z, s_L_law_456, s_L_law_458, s_L_law_459, s_L_law_460, s_L_law_461, s_L_law_461n, s_L_law_461z, hrow, s_L_law_465, s_L_law_467, s_L_law_467n, s_L_law_467z, s_L_law_468, s_L_law_468n, s_L_law_468z, s_L_law_469, s_L_law_471, s_L_law_472, s_L_law_473, s_L_law_474, s_L_law_474n, s_L_law_474z, s_L_law_475, s_L_law_477, s_L_law_478, s_L_law_479, s_L_law_480, s_L_law_483, s_L_law_485, s_L_law_485n, s_L_law_485z, s_L_law_486, s_L_law_489, s_L_law_491, s_L_law_494, s_L_law_495, s_L_law_496, s_L_law_498, s_L_law_501, s_L_law_501n, s_L_law_501z, s_L_law_502, s_L_law_503, s_L_law_504, s_L_law_506, s_L_law_507, s_L_law_508, s_L_law_511, s_L_law_512, s_L_law_513, tl_some, tl_none, cv_int, cv_ref, cv_null, cv_long, cat_rf, jcv_nil, jcat_cons, jv_none, jv_int, jv_ref, jv_null, jw_rf, rf_some, rf_none, bz_0, bz_1, i1_0, i0_0, if_true, if_false, ite_self, List.nil_append, List.cons_append, Nat.reduceAdd, Nat.reduceLeDiff, Nat.zero_le, Nat.le_refl, and_self, and_true, true_and, not_true_eq_false, not_false_eq_true, reduceIte, c1, hcm, s1, s2, s3, j1, j2, j3, e1, e2, e3, q1, q2, q3, hm, if_pos hno', hth, e70, h10]
    have hgo : Lo sv (ω.1 0) m sc out N S ω (t + 1) g (ovl I m (upA A 7 0 1)) (ovJ J m T) P (upA A 7 0 1) T tb ub st := h0.go (u := 0) (u' := 0) (hR.c1.env (gle_rf g) (fun b κ q => Nat.lt_succ_of_lt (hR.2.2.2.2.2.2.1 b κ q)) (fun _ _ _ => ⟨rfl, rfl, rfl⟩)) ⟨gle_rf g, fun _ _ => ⟨rfl, rfl, rfl⟩, by omega, by omega, by omega, by omega⟩ hV.c1 (hZ.kp (zk_up (zk_rf A) (by decide) (by decide)) (fs_up (fs_rf A) rfl)) (hZ1.kp (fs_up (fs_rf A) rfl)) (hD.kp (gle_rf g) (fs_up (fs_rf A) rfl)) rfl
    rw [hOJ] at hgo
    exact K ω (t + 1) (u + 6) g _ J P _ T tb ub st _ _ hgo (by omega) (by omega) (by omega) (by omega) (by omega)
  · have hj1 := hj.trans (decide_eq_false hno)
    have hno' : ¬ (S (n + 1) < 0 ∨ ¬ S (n + 1) < A 7 28 ∨ S (n + 2) < 0 ∨ 4 < S (n + 2)) := fun w => hno (by
      rcases w with q | q | q | q
      · exact Or.inl q
      · exact Or.inr (Or.inl q)
      · exact Or.inr (Or.inr (Or.inl q))
      · exact Or.inr (Or.inr (Or.inr (lt5_4.mpr q))))
    generalize hv : (A 78 (5 * (S (n + 1)).toNatClampNeg + (S (n + 2)).toNatClampNeg)) = v
    have hla := fun (Q : Option Value → jM → Prop) => c_lawAt (Q := Q) (sv := sv) (d := d + 8) (u := u) hR hb hno o1 o2
    have hm := fun (Q : Option Value → jM → Prop) => m_at (Q := Q) (sv := sv) (d := d + 13) (t := t) (u := u) (I := I) (J := ups J 79 0 out v.toInt64) (P := P) (A := A) (x := S (n + 1)) (y := S (n + 2)) hL hl hb
    have hth := fun (Q : Option Value → jM → Prop) => m_thrown (Q := Q) (sv := sv) (d := d + 13) (t := t) (u := u) (I := I) (J := ups J 79 0 out v.toInt64) (P := P) (A := cdA A) hL
    have e70 : cdA A 7 0 = 0 := rfl
    rw [hv] at hla
    rw [hO, hv] at hm
    have j0 : jin 0 (jn g out) = true := by rw [o2]; rfl
    have q0 : (0 : Int32).toNatClampNeg = 0 := rfl
    have eJ : ups J 79 0 out v.toInt64 79 0 out = v.toInt64 := if_pos ⟨rfl, rfl, rfl⟩
    have hrow := fun (Q : Option Value → jM → Prop) => s_L_law_462c (sv := sv) (d := d + 13) (Q := Q) (l0 := some (.ref sc)) (l1 := some (.ref (ω.1 0))) (l2 := some (.ref m)) (l3 := some (.ref out)) (l4 := some (.int (nI n))) (l5 := l5) (l6 := l6) (b := out) (s := []) hj1 (by decide)
    simp only [s_L_law_448, s_L_law_448n, s_L_law_448z, s_L_law_449, s_L_law_449n, s_L_law_449z, s_L_law_450, s_L_law_452, s_L_law_453, s_L_law_454, s_L_law_455, s_L_law_455n, s_L_law_455z, s_L_law_456, s_L_law_458, s_L_law_459, s_L_law_460, s_L_law_461, s_L_law_461n, s_L_law_461z, hrow, hla, s_L_law_465, s_L_law_467, s_L_law_467n, s_L_law_467z, s_L_law_468, s_L_law_468n, s_L_law_468z, s_L_law_469, s_L_law_471, s_L_law_472, s_L_law_473, s_L_law_474, s_L_law_474n, s_L_law_474z, s_L_law_475, s_L_law_477, s_L_law_478, s_L_law_479, s_L_law_480, s_L_law_483, s_L_law_485, s_L_law_485n, s_L_law_485z, s_L_law_486, s_L_law_489, s_L_law_491, s_L_law_494, s_L_law_495, s_L_law_496, s_L_law_498, s_L_law_501, s_L_law_501n, s_L_law_501z, s_L_law_502, s_L_law_503, s_L_law_504, s_L_law_506, s_L_law_507, s_L_law_508, s_L_law_511, s_L_law_512, s_L_law_513, tl_some, tl_none, cv_int, cv_ref, cv_null, cv_long, cat_rf, jcv_nil, jcat_cons, jv_none, jv_int, jv_ref, jv_null, jw_rf, rf_some, rf_none, bz_0, bz_1, i1_0, i0_0, if_true, if_false, ite_self, List.nil_append, List.cons_append, Nat.reduceAdd, Nat.reduceLeDiff, Nat.zero_le, Nat.le_refl, and_self, and_true, true_and, not_true_eq_false, not_false_eq_true, reduceIte, c1, hcm, s1, s2, s3, j1, j2, j3, e1, e2, e3, q1, q2, q3, hm, if_neg hno', hth, e70, o1, j0, q0, eJ, lg_cmp_rf]
    have hgo : Lo sv (ω.1 0) m sc out N S ω t g (ovl I m (cdA A)) (ovJ (ups J 79 0 out v.toInt64) m T) P (cdA A) T tb ub st := by
      obtain ⟨⟨r1, r2, r3, r4, r5⟩, ⟨k1, k2, k3⟩, k4⟩ := h0.cd
      refine ⟨⟨r1.env (gle_rf g) r1.2.2.2.2.2.2.1 (fun κ p1 p2 => ⟨rfl, by rw [ovJ_lo p1, ovJ_lo p1, ups_o (by omega)], rfl⟩), r2, r3, r4, r5⟩, ⟨k1, k2, ovJ_self (fun k => if_pos ⟨rfl, rfl⟩)⟩, k4⟩
    have eo : ovJ (ups J 79 0 out v.toInt64) m T = ups J 79 0 out v.toInt64 := ovJ_self (fun k => by
      rw [ups_ap, if_neg (fun q => absurd q.1 (by decide))]
      rw [← hOJ]
      exact if_pos ⟨rfl, rfl⟩)
    rw [eo] at hgo
    exact K ω t u g _ _ P _ T tb ub st _ _ hgo (by omega) (by omega) (by omega) (by omega) (by omega)
theorem and15 (x : Int32) : ∃ k : Nat, k < 16 ∧ x &&& 15 = nI k := by
  refine ⟨(x &&& 15).toBitVec.toNat, ?_, ?_⟩
  · rw [Int32.toBitVec_and, BitVec.toNat_and]
    exact Nat.and_lt_two_pow _ (by decide : (15 : Nat) < 2 ^ 4)
  · refine Int32.toBitVec_inj.mp ?_
    show _ = BitVec.ofNat 32 _
    rw [BitVec.ofNat_toNat, BitVec.setWidth_eq]
/-- one turn of the loop, from its switch on -/
theorem law_turn (h : Lo sv a m sc out N S ω t g I J P A T tb ub st) (hn : n + 3 < N) (hN : N < 100000) (hst : st + 30 < 999999) (K : LK sv d Q a m sc out N n S t u tb ub st) : Ev sv (d + 14) (110, 62, [some (.ref sc), some (.ref a), some (.ref m), some (.ref out), some (.int (nI n)), l5, l6], []) (tv t u g I J P) Q := by
  obtain ⟨s1, s2, s3⟩ := h.2.2.2.1
  have j0 : jin (nI n) (jn g sc) = true := by rw [s2]; exact jin_nI (by omega) (by omega)
  have q0 : (nI n).toNatClampNeg = n := nI_clamp (by omega)
  have Sw : Ev sv (d + 14) (110, 62, [some (.ref sc), some (.ref a), some (.ref m), some (.ref out), some (.int (nI n)), l5, l6], []) (tv t u g I J P) Q ↔ Ev sv (d + 14) (110, 69, [some (.ref sc), some (.ref a), some (.ref m), some (.ref out), some (.int (nI n)), l5, l6], [.int (S n &&& 15)]) (tv t u g I J P) Q := by
    simp only [s_L_law_62, s_L_law_62n, s_L_law_62z, s_L_law_63, s_L_law_65, s_L_law_66, s_L_law_68, tl_some, tl_none, cv_int, cv_ref, cv_null, cv_long, cat_rf, jcv_nil, jcat_cons, jv_none, jv_int, jv_ref, jv_null, jw_rf, rf_some, rf_none, bz_0, bz_1, i1_0, i0_0, if_true, if_false, ite_self, List.nil_append, List.cons_append, Nat.reduceAdd, Nat.reduceLeDiff, Nat.zero_le, Nat.le_refl, and_self, and_true, true_and, not_true_eq_false, not_false_eq_true, reduceIte, s1, j0, q0, s3]
  refine Sw.mpr ?_
  obtain ⟨k, hk, e⟩ := and15 (S n)
  rw [e]
  have hc : k = 0 ∨ k = 1 ∨ k = 2 ∨ k = 3 ∨ k = 4 ∨ k = 5 ∨ k = 6 ∨ k = 7 ∨ k = 8 ∨ k = 9 ∨ k = 10 ∨ k = 11 ∨ k = 12 ∨ k = 13 ∨ 14 ≤ k := by omega
  rcases hc with c | c | c | c | c | c | c | c | c | c | c | c | c | c | c
  · subst c; exact s_L_law_69c0.mpr (law_group h hn hN K)
  · subst c; exact s_L_law_69c1.mpr (law_line h hn hN K)
  · subst c; exact s_L_law_69c2.mpr (law_sum h hn hN K)
  · subst c; exact s_L_law_69c3.mpr (law_control h hn hN K)
  · subst c; exact s_L_law_69c4.mpr (law_set h hn hN K)
  · subst c; exact s_L_law_69c5.mpr (law_initiate h hn hN K)
  · subst c; exact s_L_law_69c6.mpr (law_generate h hn hN hst K)
  · subst c; exact s_L_law_69c7.mpr (law_terminate h hn hN hst K)
  · subst c; exact s_L_law_69c8.mpr (law_at h hn hN K)
  · subst c; exact s_L_law_69c9.mpr (law_lines h hn hN K)
  · subst c; exact s_L_law_69c10.mpr (law_total h hn hN K)
  · subst c; exact s_L_law_69c11.mpr (law_counter h hn hN K)
  · subst c; exact s_L_law_69c12.mpr (law_suppress h hn hN K)
  · subst c; exact s_L_law_69c13.mpr (law_indicate h hn hN K)
  · refine (s_L_law_69d (Or.inr (by rw [nI_toInt (by omega)]; omega))).mpr ?_
    exact K ω t u g I J P A T tb ub st l5 l6 h (Nat.le_refl _) (Nat.le_refl _) (by omega) (by omega) (by omega)
end
