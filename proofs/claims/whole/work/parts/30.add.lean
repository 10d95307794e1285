-- ===== Printed.add =====
section
variable {sv : Nat → Value} {d t u : Nat} {Q : Option Value → jM → Prop} {g : jG} {I : tI} {J : tJ} {P : tP} {A : Nat → Nat → Int32} {ω : Wd} {tb ub : Nat} {x y z : Int32}
theorem c_add {mi : Nat} (hs1 : sv 1 = .ref mi) (hD : RD ω) (hR : RP sv ω g I P A tb ub) (hl : LnA A) (hb : ln A < 100000) (htg : ∀ b κ, jt g b = some κ → b < t) (hge : ∃ κ, jt g ω.2.2.2.2.1 = some κ) (hse : ∃ κ, jt g ω.2.2.2.2.2.2.1 = some κ) {gi : Nat} {k a v : Int32}
    (K : ∀ (t' u' : Nat) (g' : jG) (I' : tI) (J' : tJ) (P' : tP) (tb' ub' : Nat), RP sv ω g' I' P' (putA A gi k a v) tb' ub' → PFr sv ω g g' I I' J J' P P' → (∀ b κ, jt g' b = some κ → b < t') → t ≤ t' → u ≤ u' → t' + tb ≤ t + tb' → u' + ub ≤ u + ub' → Q none (tv t' u' g' I' J' P')) :
    Ev sv (d + 7) (6, 0, [some (.ref (ω.1 5)), some (.int (A 7 24)), some (.int a), some (.int (nI gi)), some (.int k), some (.int v), none, none, none], []) (tv t u g I J P) Q := by
  obtain ⟨h3, h30, h31, he, hc, nsh, ha, hbq, hL, hc2, hsh, hinj, hn1, hn2, hcells, htb, hub, hd1, hd2⟩ := hR
  have hl' : A 7 28 = nI (ln A) := hl
  have h31' : I 3 1 (ω.1 5) = nI (ln A) := by rw [h31, hl']
  have hdiv : nI (ln A) / 64 = nI (ln A / 64) := pk_div (a := ln A) (d := 64) (by omega) (by omega) (by omega)
  have h64 : ¬ (64 : Int32) = 0 := by decide
  have hsh1 := hL.1
  have hsz : I 1 2 (ω.1 6) = nI nsh := hL.2.2.1
  by_cases hq : ln A / 64 < nsh
  · have hlt : nI (ln A / 64) < nI nsh := nI_lt hq (by omega)
    have S1 : Ev sv (d + 7) (6, 0, [some (.ref (ω.1 5)), some (.int (A 7 24)), some (.int a), some (.int (nI gi)), some (.int k), some (.int v), none, none, none], []) (tv t u g I J P) Q ↔ Ev sv (d + 7) (6, 36, [some (.ref (ω.1 5)), some (.int (A 7 24)), some (.int a), some (.int (nI gi)), some (.int k), some (.int v), some (.int (nI (ln A / 64))), none, none], []) (tv t u g I J P) Q := by
      simp only [s_X1_add_0, s_X1_add_0n, s_X1_add_0z, s_X1_add_1, s_X1_add_4, s_X1_add_6, s_X1_add_7, s_X1_add_9, s_X1_add_11, s_X1_add_11n, s_X1_add_11z, s_X1_add_12, s_X1_add_15, s_X1_add_18, tl_some, tl_none, cv_int, cv_ref, cv_null, cv_long, cat_rf, jcv_nil, jcat_cons, jv_none, jv_int, jv_ref, jv_null, jw_rf, rf_some, rf_none, bz_0, bz_1, i1_0, i0_0, if_true, if_false, ite_self, List.nil_append, List.cons_append, Nat.reduceAdd, Nat.reduceLeDiff, Nat.zero_le, Nat.le_refl, and_self, and_true, true_and, not_true_eq_false, not_false_eq_true, reduceIte, h3, h30, h31', h64, hdiv, hsh1, l_size hsh1, hsz, hlt]
    refine S1.mpr ((c_add_put (d := d + 4) h3 h30 h31' hL hq hb (hsh _ hq)).mpr (K t u g _ J P tb ub ⟨h3, h30, by rw [ups_ap, if_pos ⟨rfl, rfl, rfl⟩]; rfl, he, hc, nsh, ha, hbq, hL.congr rfl rfl (fun _ _ => rfl) (gle_rf g), hc2, hsh, hinj, hn1, by rw [putA_ln hb]; omega, ?_, htb, hub, hd1, hd2⟩ ⟨gle_rf g, fun κ a1 a2 a3 a4 a5 => ⟨?_, rfl, rfl⟩, fun n f h => h.congr rfl rfl (fun _ _ => rfl) (gle_rf g), fun n f h => h.congr rfl rfl (fun _ _ => rfl) (gle_rf g)⟩ htg (Nat.le_refl _) (Nat.le_refl _) (Nat.le_refl _) (Nat.le_refl _)))
    · exact rp_cells hb hq hinj hcells hn2
    · rw [ups_o a2, ups_o a5, ups_o a5, ups_o a5, ups_o a5, ups_o a5]
  · have hnq : ln A / 64 = nsh := by omega
    have hn64 : ln A = 64 * nsh := by omega
    have hnlt : ¬ nI (ln A / 64) < nI nsh := nI_nlt (by omega) (by omega)
    have ht1 : jt (jgset g t (4, 1)) t = some 4 := by rw [jt_set, if_pos rfl]
    have htg1 : ∀ b κ, jt (jgset g t (4, 1)) b = some κ → b < t + 1 := by
      intro b κ hb1
      rw [jt_set] at hb1
      by_cases h : b = t
      · omega
      · rw [if_neg h] at hb1
        have := htg _ _ hb1
        omega
    have hg1 : gle g (jgset g t (4, 1)) := gle_new htg
    have hg2 : gle (jgset g t (4, 1)) (jgset (jgset g t (4, 1)) (t + 1) (63, 320)) := gle_new htg1
    have hg12 := hg1.tr hg2
    have htg2 : ∀ b κ, jt (jgset (jgset g t (4, 1)) (t + 1) (63, 320)) b = some κ → b < t + 2 := by
      intro b κ hb1
      rw [jt_set] at hb1
      by_cases h : b = t + 1
      · omega
      · rw [if_neg h] at hb1
        have := htg1 _ _ hb1
        omega
    have S1 : Ev sv (d + 7) (6, 0, [some (.ref (ω.1 5)), some (.int (A 7 24)), some (.int a), some (.int (nI gi)), some (.int k), some (.int v), none, none, none], []) (tv t u g I J P) Q ↔ Ev sv (d + 6) (101, 0, [some (.ref (ω.1 6)), some (.ref t)], []) (tv (t + 2) (u + 1 + 320) (jgset (jgset g t (4, 1)) (t + 1) (63, 320)) (upc (upc I 4 t (fun _ => 0)) 63 (t + 1) (fun _ => 0)) (upc (upc J 4 t (fun _ => 0)) 63 (t + 1) (fun _ => 0)) (ups (upc (upc P 4 t (fun _ => none)) 63 (t + 1) (fun _ => none)) 4 0 t (some (t + 1)))) (fun r M1 => Ev sv (d + 6 + 1) (6, 35, [some (.ref (ω.1 5)), some (.int (A 7 24)), some (.int a), some (.int (nI gi)), some (.int k), some (.int v), some (.int (nI (ln A / 64))), none, none], r.toList ++ []) M1 Q) := by
      have hsh2 := (hg12 _ _ hsh1).1
      simp only [s_X1_add_0, s_X1_add_0n, s_X1_add_0z, s_X1_add_1, s_X1_add_4, s_X1_add_6, s_X1_add_7, s_X1_add_9, s_X1_add_11, s_X1_add_11n, s_X1_add_11z, s_X1_add_12, s_X1_add_15, s_X1_add_18, s_X1_add_21, s_X1_add_21n, s_X1_add_21z, s_X1_add_22, s_X1_add_25, s_X1_add_28, s_X1_add_29, s_X1_add_32, tl_some, tl_none, cv_int, cv_ref, cv_null, cv_long, cat_rf, jcv_nil, jcat_cons, jv_none, jv_int, jv_ref, jv_null, jw_rf, rf_some, rf_none, bz_0, bz_1, i1_0, i0_0, if_true, if_false, ite_self, List.nil_append, List.cons_append, Nat.reduceAdd, Nat.reduceLeDiff, Nat.zero_le, Nat.le_refl, and_self, and_true, true_and, not_true_eq_false, not_false_eq_true, reduceIte, h3, h30, h31', h64, hdiv, hsh1, l_size hsh1, hsz, hnlt, c_sheet, hsh2]
    refine S1.mpr ?_
    have hL1 : Lst sv (jgset (jgset g t (4, 1)) (t + 1) (63, 320)) (upc (upc I 4 t (fun _ => 0)) 63 (t + 1) (fun _ => 0)) (ups (upc (upc P 4 t (fun _ => none)) 63 (t + 1) (fun _ => none)) 4 0 t (some (t + 1))) (ω.1 6) he hc nsh ha := hL.congr rfl rfl (fun _ _ => rfl) hg12
    have hv : jt (jgset (jgset g t (4, 1)) (t + 1) (63, 320)) t = some 4 := (hg2 _ _ ht1).1
    refine l_add (d := d) hs1 hL1 (by omega) htg2 (fun i hi => Or.inr (Or.inl (hg12 _ _ (hsh i hi).1).1)) (Or.inr (Or.inl hv)) hc2 (fun t' u' g' I' J' P' e' c' hL2 hF l1 l2 l3 l4 l5 l6 l7 => ?_)
    obtain ⟨f1, f2, f3, f4, f5⟩ := hF
    have hgl2 : gle (jgset (jgset g t (4, 1)) (t + 1) (63, 320)) g' := fun b κ hb1 => by
      have := f1 b (htg2 _ _ hb1)
      exact ⟨by rw [this.1]; exact hb1, this.2⟩
    have hgl := hg12.tr hgl2
    -- the sheets, with the new one
    have hsh' : ∀ q, q < nsh + 1 → jt g' (if q = nsh then t else ha q) = some 4 ∧ P' 4 0 (if q = nsh then t else ha q) = some (if q = nsh then t + 1 else hbq q) ∧ jt g' (if q = nsh then t + 1 else hbq q) = some 63 ∧ jn g' (if q = nsh then t + 1 else hbq q) = 320 := by
      intro q hq1
      by_cases h : q = nsh
      · rw [if_pos h, if_pos h]
        have h63 : jt (jgset (jgset g t (4, 1)) (t + 1) (63, 320)) (t + 1) = some 63 := by rw [jt_set, if_pos rfl]
        refine ⟨(hgl2 _ _ hv).1, ?_, (hgl2 _ _ h63).1, ?_⟩
        · rw [f4 4 0 t (by decide) (fun q => absurd q.1 (by decide)), ups_ap, if_pos ⟨rfl, rfl, rfl⟩]
        · rw [(hgl2 _ _ h63).2, jn_set, if_pos rfl]
      · rw [if_neg h, if_neg h]
        obtain ⟨s1, s2, s3, s4⟩ := hsh q (by omega)
        have hat := htg _ _ s1
        refine ⟨(hgl _ _ s1).1, ?_, (hgl _ _ s3).1, by rw [(hgl _ _ s3).2]; exact s4⟩
        rw [f4 4 0 _ (by decide) (fun q => absurd q.1 (by decide)), ups_ap, if_neg (fun q => by have := q.2.2; omega), upc_ap, if_neg (fun q => absurd q.1 (by decide)), upc_ap, if_neg (fun q => by have := q.2; omega)]
        exact s2
    have h3' : jt g' (ω.1 5) = some 3 := (hgl _ _ h3).1
    have hpt := htg _ _ h3
    have h30' : P' 3 0 (ω.1 5) = some (ω.1 6) := by
      rw [f4 3 0 _ (by decide) (fun q => absurd q.1 (by decide))]
      exact h30
    have h31'' : I' 3 1 (ω.1 5) = nI (ln A) := by
      rw [f2 3 1 _ (by decide) (fun q => absurd q.1 (by decide))]
      exact h31'
    simp only [s_X1_add_35, tl_some, tl_none, cv_int, cv_ref, cv_null, cv_long, cat_rf, jcv_nil, jcat_cons, jv_none, jv_int, jv_ref, jv_null, jw_rf, rf_some, rf_none, bz_0, bz_1, i1_0, i0_0, if_true, if_false, ite_self, List.nil_append, List.cons_append, Nat.reduceAdd, Nat.reduceLeDiff, Nat.zero_le, Nat.le_refl, and_self, and_true, true_and, not_true_eq_false, not_false_eq_true, reduceIte]
    refine (c_add_put (d := d + 4) (hb := fun q => if q = nsh then t + 1 else hbq q) h3' h30' h31'' hL2 (by omega) hb (hsh' _ (by omega))).mpr ?_
    have hI63 : ∀ j b, b ≠ t + 1 → I' 63 j b = I 63 j b := fun j b hne => by
      rw [f2 63 j b (by decide) (fun q => absurd q.1 (by decide)), upc_ap, if_neg (fun q => hne q.2), upc_ap, if_neg (fun q => absurd q.1 (by decide))]
    have hinj' : ∀ q r, q < nsh + 1 → r < nsh + 1 → (if q = nsh then t + 1 else hbq q) = (if r = nsh then t + 1 else hbq r) → q = r := by
      intro q r hq1 hr1 heq
      by_cases h1 : q = nsh
      · by_cases h2 : r = nsh
        · omega
        · rw [if_pos h1, if_neg h2] at heq
          have := htg _ _ (hsh r (by omega)).2.2.1
          omega
      · by_cases h2 : r = nsh
        · rw [if_neg h1, if_pos h2] at heq
          have := htg _ _ (hsh q (by omega)).2.2.1
          omega
        · rw [if_neg h1, if_neg h2] at heq
          exact hinj q r (by omega) (by omega) heq
    have hcells' : ∀ i, i < ln A → ∀ c, c < 5 → I' 63 (i % 64 * 5 + c) (if i / 64 = nsh then t + 1 else hbq (i / 64)) = A 78 (5 * i + c) := by
      intro i hi c hc5
      have hlt1 : i / 64 < nsh := by omega
      rw [if_neg (by omega), hI63 _ _ (by have := htg _ _ (hsh _ hlt1).2.2.1; omega)]
      exact hcells i hi c hc5
    refine K t' u' g' _ J' P' (3 * (nsh + 1)) (4 * c' + 321 * (nsh + 1)) ⟨h3', h30', by rw [ups_ap, if_pos ⟨rfl, rfl, rfl⟩]; rfl, e', c', nsh + 1, _, fun q => if q = nsh then t + 1 else hbq q, hL2.congr rfl rfl (fun _ _ => rfl) (gle_rf g'), l5, hsh', hinj', by omega, by rw [putA_ln hb]; omega, rp_cells (hb := fun q => if q = nsh then t + 1 else hbq q) hb (by omega) hinj' hcells' (by omega), rfl, rfl, ?_, ?_⟩ ⟨hgl, fun κ a1 a2 a3 a4 a5 => ⟨?_, ?_, ?_⟩, fun n f h => ?_, fun n f h => ?_⟩ l7 (by omega) (by omega) (by omega) (by omega)
    · intro hee
      rcases l6 with h | h
      · rw [h] at hee ⊢
        have := hd1 hee
        exact (hgl _ _ this).1
      · exfalso
        obtain ⟨κ, hκ⟩ := hge
        have := htg _ _ hκ
        omega
    · intro hee
      rcases l6 with h | h
      · rw [h] at hee ⊢
        have := hd2 hee
        exact (hgl _ _ this).1
      · exfalso
        obtain ⟨κ, hκ⟩ := hse
        have := htg _ _ hκ
        omega
    · rw [ups_o a2, ups_o a5, ups_o a5, ups_o a5, ups_o a5, ups_o a5]
      funext k1 b1
      rw [f2 κ k1 b1 a4 (fun q => a1 q.1), upc_ap, if_neg (fun q => a5 q.1), upc_ap, if_neg (fun q => a3 q.1)]
    · funext k1 b1
      rw [f3 κ k1 b1 a4, upc_ap, if_neg (fun q => a5 q.1), upc_ap, if_neg (fun q => a3 q.1)]
    · funext k1 b1
      rw [f4 κ k1 b1 a4 (fun q => a1 q.1), ups_ap, if_neg (fun q => a3 q.1), upc_ap, if_neg (fun q => a5 q.1), upc_ap, if_neg (fun q => a3 q.1)]
    · have hz : ω.2.2.2.2.1 = he → n = 0 := fun hee => by
        have h95 := hd1 hee.symm
        rw [← hee] at h95
        obtain ⟨-, -, -, -, k1, -, k2, -⟩ := h
        rcases k2 with ⟨k3, -⟩ | ⟨-, k3⟩
        · omega
        · rw [h95] at k3; cases k3
      refine h.congr ?_ ?_ (fun i hi => ?_) hgl
      · show I' 1 2 (ω.1 1) = I 1 2 (ω.1 1)
        rw [f2 1 2 _ (by decide) (fun q => hD.2.1 q.2)]
        rfl
      · rw [f4 1 1 _ (by decide) (fun q => hD.2.1 q.2)]
        rfl
      · obtain ⟨κ, hκ⟩ := hge
        have := htg _ _ hκ
        rw [f5 i _ (by omega) (fun q => by have := hz q; omega)]
        rfl
    · have hz : ω.2.2.2.2.2.2.1 = he → n = 0 := fun hee => by
        have h95 := hd2 hee.symm
        rw [← hee] at h95
        obtain ⟨-, -, -, -, k1, -, k2, -⟩ := h
        rcases k2 with ⟨k3, -⟩ | ⟨-, k3⟩
        · omega
        · rw [h95] at k3; cases k3
      refine h.congr ?_ ?_ (fun i hi => ?_) hgl
      · show I' 1 2 (ω.1 2) = I 1 2 (ω.1 2)
        rw [f2 1 2 _ (by decide) (fun q => hD.2.2 q.2)]
        rfl
      · rw [f4 1 1 _ (by decide) (fun q => hD.2.2 q.2)]
        rfl
      · obtain ⟨κ, hκ⟩ := hse
        have := htg _ _ hκ
        rw [f5 i _ (by omega) (fun q => by have := hz q; omega)]
        rfl
end
