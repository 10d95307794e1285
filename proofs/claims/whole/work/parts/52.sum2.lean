-- ===== sum, the call =====
section
variable {sv : Nat → Value} {d t u : Nat} {Q : Option Value → jM → Prop} {g : jG} {I I' : tI} {J : tJ} {P : tP} {A B : Nat → Nat → Int32} {T T' : Nat → Int64} {ω : Wd} {tb ub st : Nat} {x y z : Int32}
theorem c_sum_make (hR : Rel sv ω t g I J P A T tb ub) (hV : Inv ω I A st) (hZ1 : Z1 A) (hDg : Dg ω g A) (h21 : A 7 21 = 0) (hns : nsA A < 20) {gi : Nat} (hx : x = nI gi) (h1 : 1 ≤ gi) (h2 : gi ≤ ngA A) (h4 : A 66 gi = 4) (hof : isOfA A x y)
    (K : ∀ (ω' : Wd) (t' u' : Nat) (g' : jG) (I' : tI) (J' : tJ) (P' : tP), Rel sv ω' t' g' I' J' P' (sumA A x y z) (upT T (nsA A + 1) 0) tb ub → Ny t u g I J P tb ub t' u' g' I' J' P' tb ub → Inv ω' I' (sumA A x y z) st → Z1 (sumA A x y z) → Dg ω' g' (sumA A x y z) → ω'.1 = ω.1 → Q (some (.int (nI (nsA A + 1)))) (tv t' u' g' I' J' P')) :
    Ev sv (d + 7) (14, 77, [some (.ref (ω.1 0)), some (.int x), some (.int y), some (.int z), some (.ref (ω.2.1 (gi - 1)))], []) (tv t u g I J P) Q := by
  have hRsave := hR
  obtain ⟨hC, hV1, hG, hS, hP, hD, htg, hw, hl, mi, hs1⟩ := hR
  obtain ⟨c1, c2, c3, c4, c5, c6, c7, c8, c9, c10, c11, c12, c13⟩ := hC
  obtain ⟨hLg, hGs, hGi, hGb⟩ := hG
  obtain ⟨hLs, hSs, hSi⟩ := hS
  have h20 := hw.1.2
  obtain ⟨k1, k2, k3, k4, k5, k6, k7, -⟩ := hGs (gi - 1) (by omega)
  have egi : gi - 1 + 1 = gi := by omega
  rw [egi] at k5 k6 k7
  have hclx : x.toNatClampNeg = gi := by rw [hx]; exact nI_clamp (by omega)
  have hg1 : gle g (jgset g t (5, 5)) := gle_new htg
  have htg1 : ∀ b κ, jt (jgset g t (5, 5)) b = some κ → b < t + 1 := by
    intro b κ hb1
    rw [jt_set] at hb1
    by_cases h : b = t
    · omega
    · rw [if_neg h] at hb1
      have := htg _ _ hb1
      omega
  have ht1 : jt (jgset g t (5, 5)) t = some 5 := by rw [jt_set, if_pos rfl]
  have hL1t := (hg1 _ _ hLs.1).1
  have hC1 := (hg1 _ _ c1).1
  have kg := (hg1 _ _ k1).1
  have S : Ev sv (d + 7) (14, 77, [some (.ref (ω.1 0)), some (.int x), some (.int y), some (.int z), some (.ref (ω.2.1 (gi - 1)))], []) (tv t u g I J P) Q ↔ Ev sv (d + 6) (101, 0, [some (.ref (ω.1 2)), some (.ref t)], []) (tv (t + 1) (u + 5) (jgset g t (5, 5)) (sI I t (I 2 0 (ω.2.1 (gi - 1))) (I 2 2 (ω.2.1 (gi - 1))) y z) (sJ J t) (sP P t)) (fun r M1 => Ev sv (d + 6 + 1) (14, 103, [some (.ref (ω.1 0)), some (.int x), some (.int y), some (.int z), some (.ref (ω.2.1 (gi - 1)))], r.toList ++ []) M1 Q) := by
    simp only [s_X4_sum_77, s_X4_sum_77n, s_X4_sum_77z, s_X4_sum_78, s_X4_sum_81, s_X4_sum_84, s_X4_sum_85, s_X4_sum_85n, s_X4_sum_85z, s_X4_sum_87, s_X4_sum_90, s_X4_sum_90n, s_X4_sum_90z, s_X4_sum_92, s_X4_sum_95, s_X4_sum_96, s_X4_sum_97, s_X4_sum_100, s_X3_init_0, s_X3_init_0n, s_X3_init_0z, s_X3_init_1, s_X3_init_4, s_X3_init_4n, s_X3_init_4z, s_X3_init_5, s_X3_init_6, s_X3_init_9, s_X3_init_9n, s_X3_init_9z, s_X3_init_10, s_X3_init_11, s_X3_init_14, s_X3_init_14n, s_X3_init_14z, s_X3_init_15, s_X3_init_16, s_X3_init_19, s_X3_init_19n, s_X3_init_19z, s_X3_init_20, s_X3_init_21, s_X3_init_24, s_X3_init_24n, s_X3_init_24z, s_X3_init_25, s_X3_init_27, s_X3_init_30, tl_some, tl_none, cv_int, cv_ref, cv_null, cv_long, cat_rf, jcv_nil, jcat_cons, jv_none, jv_int, jv_ref, jv_null, jw_rf, rf_some, rf_none, bz_0, bz_1, i1_0, i0_0, if_true, if_false, ite_self, List.nil_append, List.cons_append, Nat.reduceAdd, Nat.reduceLeDiff, Nat.zero_le, Nat.le_refl, and_self, and_true, true_and, not_true_eq_false, not_false_eq_true, reduceIte, c1, c3, ht1, hL1t, kg]
    exact Iff.rfl
  refine S.mpr ?_
  rw [k5, k7, ← hx]
  have hL1 : Lst sv (jgset g t (5, 5)) (sI I t x (A 67 gi) y z) (sP P t) (ω.1 2) ω.2.2.2.2.2.2.1 ω.2.2.2.2.2.2.2 (nsA A) ω.2.2.2.1 := hLs.congr rfl rfl (fun _ _ => rfl) hg1
  refine l_add (d := d) hs1 hL1 (by omega) htg1 (fun i hi => Or.inr (Or.inr (hg1 _ _ (hSs i hi).1).1)) (Or.inr (Or.inr ht1)) hDg.2.2 (fun t' u' g' I' J' P' e' c' hL2 hF l1 l2 l3 l4 l5 l6 l7 => ?_)
  obtain ⟨f1, f2, f3, f4, f5⟩ := hF
  have hgl2 : gle (jgset g t (5, 5)) g' := fun b κ hb1 => by
    have := f1 b (htg1 _ _ hb1)
    exact ⟨by rw [this.1]; exact hb1, this.2⟩
  have hgl := hg1.tr hgl2
  have hc1' := (hgl _ _ c1).1
  have hsz' : I' 1 2 (ω.1 2) = nI (nsA A + 1) := hL2.2.2.1
  have hge := hRsave.ge
  have io : ∀ κ, κ ≠ 53 → κ ≠ 1 → κ ≠ 5 → I' κ = I κ := fun κ h1 h2 h3 => by
    funext k b
    rw [f2 κ k b h1 (fun q => h2 q.1), sI_old (fun q => h3 q.1)]
  have jo : ∀ κ, κ ≠ 53 → κ ≠ 5 → J' κ = J κ := fun κ h1 h3 => by
    funext k b
    rw [f3 κ k b h1]
    show ups (upc J 5 t _) 5 4 t _ κ k b = _
    rw [ups_ap, if_neg (fun q => h3 q.1), upc_ap, if_neg (fun q => h3 q.1)]
  have po : ∀ κ, κ ≠ 53 → κ ≠ 1 → κ ≠ 5 → P' κ = P κ := fun κ h1 h2 h3 => by
    funext k b
    rw [f4 κ k b h1 (fun q => h2 q.1)]
    show upc P 5 t _ κ k b = _
    rw [upc_ap, if_neg (fun q => h3 q.1)]
  have q6 := po 6 (by decide) (by decide) (by decide)
  have n6 := io 6 (by decide) (by decide) (by decide)
  have n2 := io 2 (by decide) (by decide) (by decide)
  have q2 := po 2 (by decide) (by decide) (by decide)
  have n62 := io 62 (by decide) (by decide) (by decide)
  have hp4 : P' 6 4 (ω.1 0) = some (ω.1 2) := by rw [q6]; exact c3
  have hL2t := hL2.1
  simp only [s_X4_sum_103, s_X4_sum_104, s_X4_sum_104n, s_X4_sum_104z, s_X4_sum_105, s_X4_sum_108, s_X4_sum_111, tl_some, tl_none, cv_int, cv_ref, cv_null, cv_long, cat_rf, jcv_nil, jcat_cons, jv_none, jv_int, jv_ref, jv_null, jw_rf, rf_some, rf_none, bz_0, bz_1, i1_0, i0_0, if_true, if_false, ite_self, List.nil_append, List.cons_append, Nat.reduceAdd, Nat.reduceLeDiff, Nat.zero_le, Nat.le_refl, and_self, and_true, true_and, not_true_eq_false, not_false_eq_true, reduceIte, hc1', hp4, hL2t, l_size hL2t, hsz']
  have i5o : ∀ k b, b < t → I' 5 k b = I 5 k b := fun k b hb => by rw [f2 5 k b (by decide) (fun q => absurd q.1 (by decide)), sI_old (fun q => by omega)]
  have i5n : ∀ k, I' 5 k t = sI I t x (A 67 gi) y z 5 k t := fun k => f2 5 k t (by decide) (fun q => absurd q.1 (by decide))
  have j5o : ∀ b, b < t → J' 5 4 b = J 5 4 b := fun b hb => by
    rw [f3 5 4 b (by decide)]
    show ups (upc J 5 t _) 5 4 t _ 5 4 b = _
    rw [ups_ap, if_neg (fun q => by omega), upc_ap, if_neg (fun q => by omega)]
  have j5n : J' 5 4 t = 0 := by
    rw [f3 5 4 t (by decide)]
    show ups (upc J 5 t _) 5 4 t _ 5 4 t = _
    rw [ups_ap, if_pos ⟨rfl, rfl, rfl⟩]
  have a7 : ∀ j, j ≠ 6 → sumA A x y z 7 j = cdA A 7 j := fun j hj => sumA_o (by omega) (by omega)
  have ao : ∀ κ j, κ ≠ 7 → κ ≠ 74 → κ ≠ 75 → κ ≠ 76 → sumA A x y z κ j = A κ j := fun κ j h1 h2 h3 h4 => (sumA_o (by omega) (by omega)).trans (if_neg (fun q => h1 q.1))
  have aold : ∀ s κ, s ≤ nsA A → κ ≠ 7 → sumA A x y z κ s = A κ s := fun s κ hs hκ => (sumA_o (by omega) (by omega)).trans (if_neg (fun q => hκ q.1))
  have hmA : ∀ i, mnA (sumA A x y z) i = mnA A i := fun i => by unfold mnA; rw [ao 68 i (by decide) (by decide) (by decide) (by decide)]
  have ens := sumA_ns (x := x) (y := y) (z := z) hns
  have eng : ngA (sumA A x y z) = ngA A := by unfold ngA; rw [a7 5 (by decide)]; rfl
  have other : ∀ a e c n f, a ≠ ω.1 2 → (e = ω.2.2.2.2.2.2.1 → jt g e = some 95) → Lst sv g I P a e c n f → Lst sv g' I' P' a e c n f := by
    intro a e c n f hne he95 h
    have hz : e = ω.2.2.2.2.2.2.1 → n = 0 := fun hee => by
      have h95 := he95 hee
      obtain ⟨-, -, -, -, k1, -, k2, -⟩ := h
      rcases k2 with ⟨k3, -⟩ | ⟨-, k3⟩
      · omega
      · rw [h95] at k3; cases k3
    have het : e < t := by
      rcases h.2.2.2.2.2.2.1 with ⟨-, k, -⟩ | ⟨-, k⟩ <;> exact htg _ _ k
    refine h.congr ?_ ?_ (fun i hi => ?_) hgl
    · rw [f2 1 2 _ (by decide) (fun q => hne q.2)]
      exact sI_old (fun q => absurd q.1 (by decide))
    · rw [f4 1 1 _ (by decide) (fun q => hne q.2)]
      rfl
    · rw [f5 i _ (by omega) (fun q => by have := hz q; omega)]
      rfl
  have hw' := sumA_wf (x := x) (y := y) (z := z) hw hns hx h1 h2
  have RGn : RG sv (ω.1, ω.2.1, ω.2.2.1, (fun i => if i = nsA A then t else ω.2.2.2.1 i), ω.2.2.2.2.1, ω.2.2.2.2.2.1, e', c') g' I' P' (sumA A x y z) := by
    refine ⟨by rw [eng]; exact other _ _ _ _ _ hD.1 hDg.1 hLg, fun i hi => ?_, by rw [eng]; exact hGi, by rw [eng]; exact hGb⟩
    rw [eng] at hi
    obtain ⟨k1, k2, k3, k4, k5, k6, k7, k8, k9, k10, k11, k12⟩ := hGs i hi
    refine ⟨(hgl _ _ k1).1, by rw [q2]; exact k2, (hgl _ _ k3).1, by rw [(hgl _ _ k3).2]; exact k4, by rw [n2]; exact k5, by rw [n2, ao 66 _ (by decide) (by decide) (by decide) (by decide)]; exact k6, by rw [n2, ao 67 _ (by decide) (by decide) (by decide) (by decide)]; exact k7, by rw [n2, ao 68 _ (by decide) (by decide) (by decide) (by decide)]; exact k8, by rw [n2, ao 71 _ (by decide) (by decide) (by decide) (by decide)]; exact k9, by rw [n2, ao 72 _ (by decide) (by decide) (by decide) (by decide)]; exact k10, ?_, ?_⟩
    · rw [hmA, n2, ao 69 _ (by decide) (by decide) (by decide) (by decide), ao 70 _ (by decide) (by decide) (by decide) (by decide)]
      exact k11
    · intro j hj
      rw [hmA] at hj
      rw [n62, lat_congr (A := A) (B := sumA A x y z) (fun j => ao 69 j (by decide) (by decide) (by decide) (by decide))]
      exact k12 j hj
  have RSn : RS sv (ω.1, ω.2.1, ω.2.2.1, (fun i => if i = nsA A then t else ω.2.2.2.1 i), ω.2.2.2.2.1, ω.2.2.2.2.2.1, e', c') g' I' J' P' (sumA A x y z) (upT T (nsA A + 1) 0) := by
    refine ⟨by rw [ens]; exact hL2, fun i hi => ?_, fun i j hi hj he => ?_⟩
    · rw [ens] at hi
      show SumAt g' I' J' (sumA A x y z) (upT T (nsA A + 1) 0) (if i = nsA A then t else ω.2.2.2.1 i) (i + 1)
      by_cases e : i = nsA A
      · subst e
        rw [if_pos rfl]
        refine ⟨(hgl2 _ _ ht1).1, by rw [i5n, sumA_74]; exact sI_new.1, ?_, by rw [i5n, sumA_75]; exact sI_new.2.2.1, by rw [i5n, sumA_76]; exact sI_new.2.2.2, ?_⟩
        · rw [i5n, sumA_74, hclx, ao 67 _ (by decide) (by decide) (by decide) (by decide)]
          exact sI_new.2.1
        · rw [j5n]
          exact (if_pos rfl).symm
      · rw [if_neg e]
        have hi' : i < nsA A := by omega
        obtain ⟨s1, s2, s3, s4, s5, s6⟩ := hSs i hi'
        have hst := htg _ _ s1
        refine ⟨(hgl _ _ s1).1, by rw [i5o _ _ hst, aold _ _ (by omega) (by decide)]; exact s2, ?_, by rw [i5o _ _ hst, aold _ _ (by omega) (by decide)]; exact s4, by rw [i5o _ _ hst, aold _ _ (by omega) (by decide)]; exact s5, ?_⟩
        · rw [i5o _ _ hst, aold (i + 1) 74 (by omega) (by decide), ao 67 _ (by decide) (by decide) (by decide) (by decide)]
          exact s3
        · rw [j5o _ hst]
          exact s6.trans (if_neg (fun q => by omega)).symm
    · rw [ens] at hi hj
      have he : (if i = nsA A then t else ω.2.2.2.1 i) = (if j = nsA A then t else ω.2.2.2.1 j) := he
      by_cases e1 : i = nsA A
      · by_cases e2 : j = nsA A
        · omega
        · rw [if_pos e1, if_neg e2] at he
          have := htg _ _ (hSs j (by omega)).1
          omega
      · by_cases e2 : j = nsA A
        · rw [if_neg e1, if_pos e2] at he
          have := htg _ _ (hSs i (by omega)).1
          omega
        · rw [if_neg e1, if_neg e2] at he
          exact hSi i j (by omega) (by omega) he
  have RPn : RP sv (ω.1, ω.2.1, ω.2.2.1, (fun i => if i = nsA A then t else ω.2.2.2.1 i), ω.2.2.2.2.1, ω.2.2.2.2.2.1, e', c') g' I' P' (sumA A x y z) tb ub := by
    obtain ⟨p1, p2, p3, he, hc, nsh, ha, hb, p4, p5, p6, p7, p8, p9, p10, p11, p12, p13, p14⟩ := hP
    have n3 := io 3 (by decide) (by decide) (by decide)
    have n63 := io 63 (by decide) (by decide) (by decide)
    have q3 := po 3 (by decide) (by decide) (by decide)
    have q4 := po 4 (by decide) (by decide) (by decide)
    have eln : ln (sumA A x y z) = ln A := by unfold ln; rw [a7 28 (by decide)]; rfl
    have het : he < t := by
      rcases p4.2.2.2.2.2.2.1 with ⟨-, k, -⟩ | ⟨-, k⟩ <;> exact htg _ _ k
    refine ⟨(hgl _ _ p1).1, by rw [q3]; exact p2, by rw [n3, a7 28 (by decide)]; exact p3, he, hc, nsh, ha, hb, other _ _ _ _ _ hD.2.2.symm p14 p4, p5, fun q hq => ?_, p7, p8, by rw [eln]; exact p9, fun i hi c hc5 => ?_, p11, p12, fun hee => ?_, fun hee => ?_⟩
    · obtain ⟨s1, s2, s3, s4⟩ := p6 q hq
      exact ⟨(hgl _ _ s1).1, by rw [q4]; exact s2, (hgl _ _ s3).1, by rw [(hgl _ _ s3).2]; exact s4⟩
    · rw [eln] at hi
      rw [n63, ao 78 _ (by decide) (by decide) (by decide) (by decide)]
      exact p10 i hi c hc5
    · exact (hgl _ _ (p13 hee)).1
    · have hee : he = e' := hee
      rcases l6 with h | h
      · rw [h] at hee
        exact (hgl _ _ (p14 hee)).1
      · omega
  have hRn : Rel sv (ω.1, ω.2.1, ω.2.2.1, (fun i => if i = nsA A then t else ω.2.2.2.1 i), ω.2.2.2.2.1, ω.2.2.2.2.2.1, e', c') t' g' I' J' P' (sumA A x y z) (upT T (nsA A + 1) 0) tb ub := by
    refine ⟨?_, ?_, RGn, RSn, RPn, hD, l7, hw', ?_, mi, hs1⟩
    · exact ⟨(hgl _ _ c1).1, by rw [q6]; exact c2, by rw [q6]; exact c3, by rw [q6]; exact c4, by rw [n6, a7 1 (by decide)]; exact c5, by rw [n6, a7 2 (by decide)]; exact c6, by rw [n6, a7 3 (by decide)]; exact c7, by rw [n6, a7 4 (by decide)]; exact c8, by rw [n6, a7 21 (by decide)]; exact c9, by rw [n6, a7 24 (by decide)]; exact c10, by rw [n6, a7 25 (by decide)]; exact c11, by rw [n6, a7 22 (by decide)]; exact c12, by rw [n6, a7 23 (by decide)]; exact c13⟩
    · obtain ⟨v1, v2, v3, v4, v5, v6, v7, v8⟩ := hV1
      have n60 := io 60 (by decide) (by decide) (by decide)
      have n61 := io 61 (by decide) (by decide) (by decide)
      exact ⟨by rw [q6]; exact v1, by rw [q6]; exact v2, (hgl _ _ v3).1, by rw [(hgl _ _ v3).2]; exact v4, (hgl _ _ v5).1, by rw [(hgl _ _ v5).2]; exact v6, fun k hk => by rw [n60, ao 64 _ (by decide) (by decide) (by decide) (by decide)]; exact v7 k hk, fun k hk => by rw [n61, ao 65 _ (by decide) (by decide) (by decide) (by decide)]; exact v8 k hk⟩
    · have e28 := a7 28 (by decide)
      have e : ln (sumA A x y z) = ln A := by unfold ln; rw [e28]; rfl
      unfold LnA
      rw [e28, e]
      exact hl
  obtain ⟨hInv, hZn⟩ := sumA_inv (ω := ω) (ω' := (ω.1, ω.2.1, ω.2.2.1, (fun i => if i = nsA A then t else ω.2.2.2.1 i), ω.2.2.2.2.1, ω.2.2.2.2.2.1, e', c')) (I' := I') (x := x) (y := y) (z := z) hw hV h21 hns hZ1 hx h1 h2 h4 hof (by
    obtain ⟨t1, t2, t3⟩ := hV.2.2.2.1
    refine ⟨by rw [n6]; exact t1, t2, fun i hi => ?_⟩
    rw [eng] at hi
    rw [n2]
    exact t3 i hi)
  refine K _ t' u' g' I' J' P' hRn ⟨hgl, fun κ hκ => ⟨io κ (by omega) (by omega) (by omega), jo κ (by omega) (by omega), po κ (by omega) (by omega) (by omega)⟩, by omega, by omega, by omega, ?_⟩ hInv hZn ⟨fun hee => ?_, by rw [eng]; exact hDg.2.1, by rw [ens]; exact l5⟩ rfl
  · omega
  · have hee : ω.2.2.2.2.1 = e' := hee
    show jt g' ω.2.2.2.2.1 = some 95
    rcases l6 with h | h
    · rw [h] at hee
      exact (hgl _ _ (hDg.1 hee)).1
    · obtain ⟨κ, hκ⟩ := hge.1
      have := htg _ _ hκ
      omega
theorem c_sum (hR : Rel sv ω t g I J P A T tb ub) (hV : Inv ω I A st) (hZ1 : Z1 A) (hDg : Dg ω g A)
    (K2 : ¬ (isG A x ∧ A 66 x.toNatClampNeg = 4) → Q (some (.int (-2))) (tv t u g I J P))
    (K4 : isG A x ∧ A 66 x.toNatClampNeg = 4 → (¬ isOfA A x y ∨ z < 0 ∨ A 67 x.toNatClampNeg < z) → Q (some (.int (-4))) (tv t u g I J P))
    (K5 : isG A x ∧ A 66 x.toNatClampNeg = 4 → ¬ (¬ isOfA A x y ∨ z < 0 ∨ A 67 x.toNatClampNeg < z) → ¬ A 7 21 = 0 → Q (some (.int (-5))) (tv t u g I J P))
    (K1 : isG A x ∧ A 66 x.toNatClampNeg = 4 → ¬ (¬ isOfA A x y ∨ z < 0 ∨ A 67 x.toNatClampNeg < z) → A 7 21 = 0 → A 7 6 = 20 → Q (some (.int (-1))) (tv t u g I J P))
    (K : isG A x ∧ A 66 x.toNatClampNeg = 4 → ¬ (¬ isOfA A x y ∨ z < 0 ∨ A 67 x.toNatClampNeg < z) → A 7 21 = 0 → ¬ A 7 6 = 20 → ∀ (ω' : Wd) (t' u' : Nat) (g' : jG) (I' : tI) (J' : tJ) (P' : tP), Rel sv ω' t' g' I' J' P' (sumA A x y z) (upT T (nsA A + 1) 0) tb ub → Ny t u g I J P tb ub t' u' g' I' J' P' tb ub → Inv ω' I' (sumA A x y z) st → Z1 (sumA A x y z) → Dg ω' g' (sumA A x y z) → ω'.1 = ω.1 → Q (some (.int (nI (nsA A + 1)))) (tv t' u' g' I' J' P')) :
    Ev sv (d + 7) (14, 0, [some (.ref (ω.1 0)), some (.int x), some (.int y), some (.int z), none], []) (tv t u g I J P) Q := by
  have c1 := hR.1.1
  have c3 := hR.1.2.2.1
  have c9 := hR.1.2.2.2.2.2.2.2.2.1
  have hLs := hR.2.2.2.1.1
  have hLs1 := hLs.1
  have hw := hR.2.2.2.2.2.2.2.1
  have h20 := hw.1
  have hs20 := hw.2.1
  have hsz : I 1 2 (ω.1 2) = nI (nsA A) := hLs.2.2.1
  have hgn := fun (Q : Option Value → jM → Prop) => c_groupNumbered (Q := Q) (sv := sv) (d := d + 3) (u := u) (x := x) hR
  by_cases hg : isG A x
  · have hr := nI_range hg.1 (by rw [← h20.1]; exact hg.2) (by omega)
    obtain ⟨k1, k2, k3, k4, k5, k6, k7, -⟩ := hR.2.2.1.2.1 (x.toNatClampNeg - 1) (by omega)
    have e1 : x.toNatClampNeg - 1 + 1 = x.toNatClampNeg := by omega
    rw [e1] at k5 k6 k7
    have hxn : x = nI x.toNatClampNeg := nIo (i32_neg hg.1)
    have his := fun (Q : Option Value → jM → Prop) => c_isSumm (Q := Q) (sv := sv) (d := d + 2) (u := u) (x := x) (y := y) hR rfl
    by_cases h4 : A 66 x.toNatClampNeg = 4
    · have hg4 : isG A x ∧ A 66 x.toNatClampNeg = 4 := ⟨hg, h4⟩
      by_cases hof : isOfA A x y
      · by_cases hz : z < 0
        · simp only [s_X4_sum_0, s_X4_sum_0n, s_X4_sum_0z, s_X4_sum_1, s_X4_sum_2, s_X4_sum_5, s_X4_sum_5n, s_X4_sum_5z, s_X4_sum_7, s_X4_sum_7n, s_X4_sum_7z, s_X4_sum_9n, s_X4_sum_9, s_X4_sum_9z, s_X4_sum_12, s_X4_sum_12n, s_X4_sum_12z, s_X4_sum_14, s_X4_sum_17, s_X4_sum_18, s_X4_sum_21, s_X4_sum_23, s_X4_sum_24, s_X4_sum_24n, s_X4_sum_24z, s_X4_sum_25, s_X4_sum_26, s_X4_sum_26n, s_X4_sum_26z, s_X4_sum_28, s_X4_sum_31, s_X4_sum_34, s_X4_sum_37, s_X4_sum_38, s_X4_sum_41, s_X4_sum_42, s_X4_sum_42n, s_X4_sum_42z, s_X4_sum_44, s_X4_sum_47, s_X4_sum_50, s_X4_sum_52, tl_some, tl_none, cv_int, cv_ref, cv_null, cv_long, cat_rf, jcv_nil, jcat_cons, jv_none, jv_int, jv_ref, jv_null, jw_rf, rf_some, rf_none, bz_0, bz_1, i1_0, i0_0, if_true, if_false, ite_self, List.nil_append, List.cons_append, Nat.reduceAdd, Nat.reduceLeDiff, Nat.zero_le, Nat.le_refl, and_self, and_true, true_and, not_true_eq_false, not_false_eq_true, reduceIte, c1, hgn, if_pos (c := isG A x) hg, k1, k6, k7, h4, his, if_pos (c := isOfA A x y) hof, hz]
          exact K4 hg4 (Or.inr (Or.inl hz))
        by_cases hl : A 67 x.toNatClampNeg < z
        · simp only [s_X4_sum_0, s_X4_sum_0n, s_X4_sum_0z, s_X4_sum_1, s_X4_sum_2, s_X4_sum_5, s_X4_sum_5n, s_X4_sum_5z, s_X4_sum_7, s_X4_sum_7n, s_X4_sum_7z, s_X4_sum_9n, s_X4_sum_9, s_X4_sum_9z, s_X4_sum_12, s_X4_sum_12n, s_X4_sum_12z, s_X4_sum_14, s_X4_sum_17, s_X4_sum_18, s_X4_sum_21, s_X4_sum_23, s_X4_sum_24, s_X4_sum_24n, s_X4_sum_24z, s_X4_sum_25, s_X4_sum_26, s_X4_sum_26n, s_X4_sum_26z, s_X4_sum_28, s_X4_sum_31, s_X4_sum_34, s_X4_sum_37, s_X4_sum_38, s_X4_sum_41, s_X4_sum_42, s_X4_sum_42n, s_X4_sum_42z, s_X4_sum_44, s_X4_sum_47, s_X4_sum_50, s_X4_sum_52, tl_some, tl_none, cv_int, cv_ref, cv_null, cv_long, cat_rf, jcv_nil, jcat_cons, jv_none, jv_int, jv_ref, jv_null, jw_rf, rf_some, rf_none, bz_0, bz_1, i1_0, i0_0, if_true, if_false, ite_self, List.nil_append, List.cons_append, Nat.reduceAdd, Nat.reduceLeDiff, Nat.zero_le, Nat.le_refl, and_self, and_true, true_and, not_true_eq_false, not_false_eq_true, reduceIte, c1, hgn, if_pos (c := isG A x) hg, k1, k6, k7, h4, his, if_pos (c := isOfA A x y) hof, hz, hl]
          exact K4 hg4 (Or.inr (Or.inr hl))
        have hno : ¬ (¬ isOfA A x y ∨ z < 0 ∨ A 67 x.toNatClampNeg < z) := fun q => by
          rcases q with q | q | q
          · exact q hof
          · exact hz q
          · exact hl q
        by_cases h21 : A 7 21 = 0
        · by_cases h6 : A 7 6 = 20
          · have e : I 1 2 (ω.1 2) = 20 := by rw [hsz, ← hs20.1]; exact h6
            have hlt : ¬ (20 : Int32) < 20 := by decide
            simp only [s_X4_sum_0, s_X4_sum_0n, s_X4_sum_0z, s_X4_sum_1, s_X4_sum_2, s_X4_sum_5, s_X4_sum_5n, s_X4_sum_5z, s_X4_sum_7, s_X4_sum_7n, s_X4_sum_7z, s_X4_sum_9n, s_X4_sum_9, s_X4_sum_9z, s_X4_sum_12, s_X4_sum_12n, s_X4_sum_12z, s_X4_sum_14, s_X4_sum_17, s_X4_sum_18, s_X4_sum_21, s_X4_sum_23, s_X4_sum_24, s_X4_sum_24n, s_X4_sum_24z, s_X4_sum_25, s_X4_sum_26, s_X4_sum_26n, s_X4_sum_26z, s_X4_sum_28, s_X4_sum_31, s_X4_sum_34, s_X4_sum_37, s_X4_sum_38, s_X4_sum_41, s_X4_sum_42, s_X4_sum_42n, s_X4_sum_42z, s_X4_sum_44, s_X4_sum_47, s_X4_sum_50, s_X4_sum_52, s_X4_sum_53, s_X4_sum_53n, s_X4_sum_53z, s_X4_sum_54, s_X4_sum_57, s_X4_sum_60, s_X4_sum_62, s_X4_sum_63, s_X4_sum_63n, s_X4_sum_63z, s_X4_sum_64, s_X4_sum_67, s_X4_sum_70, s_X4_sum_72, s_X4_sum_75, s_X4_sum_76, tl_some, tl_none, cv_int, cv_ref, cv_null, cv_long, cat_rf, jcv_nil, jcat_cons, jv_none, jv_int, jv_ref, jv_null, jw_rf, rf_some, rf_none, bz_0, bz_1, i1_0, i0_0, if_true, if_false, ite_self, List.nil_append, List.cons_append, Nat.reduceAdd, Nat.reduceLeDiff, Nat.zero_le, Nat.le_refl, and_self, and_true, true_and, not_true_eq_false, not_false_eq_true, reduceIte, c1, hgn, if_pos (c := isG A x) hg, k1, k6, k7, h4, his, if_pos (c := isOfA A x y) hof, hz, hl, c9, h21, c3, hLs1, l_size hLs1, e, hlt]
            exact K1 hg4 hno h21 h6
          · have hn : nsA A < 20 := by
              by_cases c : nsA A = 20
              · rw [hs20.1, c] at h6; exact absurd rfl h6
              · omega
            have hlt : nI (nsA A) < 20 := nI_lt (b := 20) hn (by omega)
            simp only [s_X4_sum_0, s_X4_sum_0n, s_X4_sum_0z, s_X4_sum_1, s_X4_sum_2, s_X4_sum_5, s_X4_sum_5n, s_X4_sum_5z, s_X4_sum_7, s_X4_sum_7n, s_X4_sum_7z, s_X4_sum_9n, s_X4_sum_9, s_X4_sum_9z, s_X4_sum_12, s_X4_sum_12n, s_X4_sum_12z, s_X4_sum_14, s_X4_sum_17, s_X4_sum_18, s_X4_sum_21, s_X4_sum_23, s_X4_sum_24, s_X4_sum_24n, s_X4_sum_24z, s_X4_sum_25, s_X4_sum_26, s_X4_sum_26n, s_X4_sum_26z, s_X4_sum_28, s_X4_sum_31, s_X4_sum_34, s_X4_sum_37, s_X4_sum_38, s_X4_sum_41, s_X4_sum_42, s_X4_sum_42n, s_X4_sum_42z, s_X4_sum_44, s_X4_sum_47, s_X4_sum_50, s_X4_sum_52, s_X4_sum_53, s_X4_sum_53n, s_X4_sum_53z, s_X4_sum_54, s_X4_sum_57, s_X4_sum_60, s_X4_sum_62, s_X4_sum_63, s_X4_sum_63n, s_X4_sum_63z, s_X4_sum_64, s_X4_sum_67, s_X4_sum_70, s_X4_sum_72, s_X4_sum_75, s_X4_sum_76, tl_some, tl_none, cv_int, cv_ref, cv_null, cv_long, cat_rf, jcv_nil, jcat_cons, jv_none, jv_int, jv_ref, jv_null, jw_rf, rf_some, rf_none, bz_0, bz_1, i1_0, i0_0, if_true, if_false, ite_self, List.nil_append, List.cons_append, Nat.reduceAdd, Nat.reduceLeDiff, Nat.zero_le, Nat.le_refl, and_self, and_true, true_and, not_true_eq_false, not_false_eq_true, reduceIte, c1, hgn, if_pos (c := isG A x) hg, k1, k6, k7, h4, his, if_pos (c := isOfA A x y) hof, hz, hl, c9, h21, c3, hLs1, l_size hLs1, hsz, hlt]
            exact c_sum_make (d := d) hR hV hZ1 hDg h21 hn hxn hr.1 hr.2 h4 hof (K hg4 hno h21 h6)
        · simp only [s_X4_sum_0, s_X4_sum_0n, s_X4_sum_0z, s_X4_sum_1, s_X4_sum_2, s_X4_sum_5, s_X4_sum_5n, s_X4_sum_5z, s_X4_sum_7, s_X4_sum_7n, s_X4_sum_7z, s_X4_sum_9n, s_X4_sum_9, s_X4_sum_9z, s_X4_sum_12, s_X4_sum_12n, s_X4_sum_12z, s_X4_sum_14, s_X4_sum_17, s_X4_sum_18, s_X4_sum_21, s_X4_sum_23, s_X4_sum_24, s_X4_sum_24n, s_X4_sum_24z, s_X4_sum_25, s_X4_sum_26, s_X4_sum_26n, s_X4_sum_26z, s_X4_sum_28, s_X4_sum_31, s_X4_sum_34, s_X4_sum_37, s_X4_sum_38, s_X4_sum_41, s_X4_sum_42, s_X4_sum_42n, s_X4_sum_42z, s_X4_sum_44, s_X4_sum_47, s_X4_sum_50, s_X4_sum_52, s_X4_sum_53, s_X4_sum_53n, s_X4_sum_53z, s_X4_sum_54, s_X4_sum_57, s_X4_sum_60, s_X4_sum_62, tl_some, tl_none, cv_int, cv_ref, cv_null, cv_long, cat_rf, jcv_nil, jcat_cons, jv_none, jv_int, jv_ref, jv_null, jw_rf, rf_some, rf_none, bz_0, bz_1, i1_0, i0_0, if_true, if_false, ite_self, List.nil_append, List.cons_append, Nat.reduceAdd, Nat.reduceLeDiff, Nat.zero_le, Nat.le_refl, and_self, and_true, true_and, not_true_eq_false, not_false_eq_true, reduceIte, c1, hgn, if_pos (c := isG A x) hg, k1, k6, k7, h4, his, if_pos (c := isOfA A x y) hof, hz, hl, c9, h21]
          exact K5 hg4 hno h21
      · simp only [s_X4_sum_0, s_X4_sum_0n, s_X4_sum_0z, s_X4_sum_1, s_X4_sum_2, s_X4_sum_5, s_X4_sum_5n, s_X4_sum_5z, s_X4_sum_7, s_X4_sum_7n, s_X4_sum_7z, s_X4_sum_9n, s_X4_sum_9, s_X4_sum_9z, s_X4_sum_12, s_X4_sum_12n, s_X4_sum_12z, s_X4_sum_14, s_X4_sum_17, s_X4_sum_18, s_X4_sum_21, s_X4_sum_23, s_X4_sum_24, s_X4_sum_24n, s_X4_sum_24z, s_X4_sum_25, s_X4_sum_26, s_X4_sum_26n, s_X4_sum_26z, s_X4_sum_28, s_X4_sum_31, s_X4_sum_34, s_X4_sum_37, s_X4_sum_38, s_X4_sum_41, s_X4_sum_42, s_X4_sum_42n, s_X4_sum_42z, s_X4_sum_44, s_X4_sum_47, s_X4_sum_50, s_X4_sum_52, tl_some, tl_none, cv_int, cv_ref, cv_null, cv_long, cat_rf, jcv_nil, jcat_cons, jv_none, jv_int, jv_ref, jv_null, jw_rf, rf_some, rf_none, bz_0, bz_1, i1_0, i0_0, if_true, if_false, ite_self, List.nil_append, List.cons_append, Nat.reduceAdd, Nat.reduceLeDiff, Nat.zero_le, Nat.le_refl, and_self, and_true, true_and, not_true_eq_false, not_false_eq_true, reduceIte, c1, hgn, if_pos (c := isG A x) hg, k1, k6, k7, h4, his, if_neg (c := isOfA A x y) hof]
        exact K4 hg4 (Or.inl hof)
    · simp only [s_X4_sum_0, s_X4_sum_0n, s_X4_sum_0z, s_X4_sum_1, s_X4_sum_2, s_X4_sum_5, s_X4_sum_5n, s_X4_sum_5z, s_X4_sum_7, s_X4_sum_7n, s_X4_sum_7z, s_X4_sum_9n, s_X4_sum_9, s_X4_sum_9z, s_X4_sum_12, s_X4_sum_12n, s_X4_sum_12z, s_X4_sum_14, s_X4_sum_17, s_X4_sum_18, s_X4_sum_21, s_X4_sum_23, tl_some, tl_none, cv_int, cv_ref, cv_null, cv_long, cat_rf, jcv_nil, jcat_cons, jv_none, jv_int, jv_ref, jv_null, jw_rf, rf_some, rf_none, bz_0, bz_1, i1_0, i0_0, if_true, if_false, ite_self, List.nil_append, List.cons_append, Nat.reduceAdd, Nat.reduceLeDiff, Nat.zero_le, Nat.le_refl, and_self, and_true, true_and, not_true_eq_false, not_false_eq_true, reduceIte, c1, hgn, if_pos (c := isG A x) hg, k1, k6, h4]
      exact K2 (fun q => h4 q.2)
  · simp only [s_X4_sum_0, s_X4_sum_0n, s_X4_sum_0z, s_X4_sum_1, s_X4_sum_2, s_X4_sum_5, s_X4_sum_5n, s_X4_sum_5z, s_X4_sum_7, s_X4_sum_7n, s_X4_sum_7z, s_X4_sum_9n, s_X4_sum_9, s_X4_sum_9z, s_X4_sum_12, s_X4_sum_12n, s_X4_sum_12z, s_X4_sum_14, s_X4_sum_17, s_X4_sum_18, s_X4_sum_21, s_X4_sum_23, tl_some, tl_none, cv_int, cv_ref, cv_null, cv_long, cat_rf, jcv_nil, jcat_cons, jv_none, jv_int, jv_ref, jv_null, jw_rf, rf_some, rf_none, bz_0, bz_1, i1_0, i0_0, if_true, if_false, ite_self, List.nil_append, List.cons_append, Nat.reduceAdd, Nat.reduceLeDiff, Nat.zero_le, Nat.le_refl, and_self, and_true, true_and, not_true_eq_false, not_false_eq_true, reduceIte, c1, hgn, if_neg (c := isG A x) hg]
    exact K2 (fun q => hg q.1)
end
