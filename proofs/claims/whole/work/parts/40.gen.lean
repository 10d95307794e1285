-- ===== foots; generate =====
theorem fs.wp {A B : Nat → Nat → Int32} (h : fs A B) (h72 : ∀ j, B 72 j = A 72 j) (hp : WfP A) : WfP B := by
  obtain ⟨h1, h2, h3, h4⟩ := hp
  refine ⟨by rw [h 7 1 rfl, h 7 2 rfl, h 7 3 rfl]; exact h1, fun gi a1 a2 k hk => by rw [h 69 _ rfl]; exact h2 gi a1 (by rw [← h.ng]; exact a2) k (by rw [← h.mn]; exact hk), fun gi a1 a2 a3 => by rw [h72]; exact h3 gi a1 (by rw [← h.ng]; exact a2) (by rw [← h 66 gi rfl]; exact a3), fun i j a1 a2 a3 a4 a5 a6 a7 => h4 i j a1 (by rw [← h.ng]; exact a2) a3 (by rw [← h.ng]; exact a4) (by rw [← h 66 i rfl]; exact a5) (by rw [← h 66 i rfl, ← h 66 j rfl]; exact a6) (by rw [← h 67 i rfl, ← h 67 j rfl]; exact a7)⟩
section
variable {sv : Nat → Value} {d t u : Nat} {Q : Option Value → jM → Prop} {g : jG} {I I' : tI} {J : tJ} {P : tP} {A B : Nat → Nat → Int32} {T T' : Nat → Int64} {ω : Wd} {tb ub st : Nat} {x y z : Int32}
theorem c_foots_loop {lo : Nat} (hw : WfA A) (hl : LnA A) (hp : WfP A) (hv : V0 A) (hS : WfS A) (hb : ln A + 180 ≤ 100000) : ∀ n k, k + n + lo = ncA A + 1 → ∀ (x : Int32), (k ≤ ncA A → x = nI (ncA A - k)) → (k = ncA A + 1 → x = -1) → ∀ (l3 l4 : Option Value) (t u : Nat) (g : jG) (I : tI) (J : tJ) (P : tP) (tb ub st : Nat), st + n < 999999 → Rel sv ω t g I J P (ftS A T (ncA A) k).1 (ftS A T (ncA A) k).2 tb ub → Bd ω I (ftS A T (ncA A) k).1 st →
    (∀ (t' u' : Nat) (g' : jG) (I' : tI) (J' : tJ) (P' : tP) (tb' ub' st' : Nat), Rel sv ω t' g' I' J' P' (ftS A T (ncA A) (ncA A + 1 - lo)).1 (ftS A T (ncA A) (ncA A + 1 - lo)).2 tb' ub' → Nx t u g I J P tb ub t' u' g' I' J' P' tb' ub' → Bd ω I' (ftS A T (ncA A) (ncA A + 1 - lo)).1 st' → st' ≤ st + n → (RI ω I (ftS A T (ncA A) k).1 → RI ω I' (ftS A T (ncA A) (ncA A + 1 - lo)).1) → Q none (tv t' u' g' I' J' P')) →
    Ev sv (d + 12) (48, 5, [some (.ref (ω.1 0)), some (.int (nI lo)), some (.int x), l3, l4], []) (tv t u g I J P) Q := by
  have h5 := hw.2.2.1
  intro n
  induction n with
  | zero =>
    intro k hk x hx1 hx2 l3 l4 t u g I J P tb ub st hst hR hB K
    have h1 : x < nI lo := by
      by_cases h : k = ncA A + 1
      · have : lo = 0 := by omega
        rw [hx2 h, this]
        decide
      · rw [hx1 (by omega)]
        exact nI_lt (by omega) (by omega)
    refine s_X4_printControlFoots_5.mpr ?_
    simp only [s_X4_printControlFoots_6, s_X4_printControlFoots_7, s_X4_printControlFoots_72, tl_some, tl_none, cv_int, cv_ref, cv_null, cv_long, cat_rf, jcv_nil, jcat_cons, jv_none, jv_int, jv_ref, jv_null, jw_rf, rf_some, rf_none, bz_0, bz_1, i1_0, i0_0, if_true, if_false, ite_self, List.nil_append, List.cons_append, Nat.reduceAdd, Nat.reduceLeDiff, Nat.zero_le, Nat.le_refl, and_self, and_true, true_and, not_true_eq_false, not_false_eq_true, reduceIte, h1]
    have e : ncA A + 1 - lo = k := by omega
    rw [e] at K
    exact K t u g I J P tb ub st hR (Nx_I (fun _ _ => rfl)) hB (by omega) (fun h => h)
  | succ n ih =>
    intro k hk x hx1 hx2 l3 l4 t u g I J P tb ub st hst hR hB K
    have hx := hx1 (by omega)
    subst hx
    have h1 : ¬ nI (ncA A - k) < nI lo := nI_nlt (by omega) (by omega)
    refine s_X4_printControlFoots_5.mpr ?_
    simp only [s_X4_printControlFoots_6, s_X4_printControlFoots_7, tl_some, tl_none, cv_int, cv_ref, cv_null, cv_long, cat_rf, jcv_nil, jcat_cons, jv_none, jv_int, jv_ref, jv_null, jw_rf, rf_some, rf_none, bz_0, bz_1, i1_0, i0_0, if_true, if_false, ite_self, List.nil_append, List.cons_append, Nat.reduceAdd, Nat.reduceLeDiff, Nat.zero_le, Nat.le_refl, and_self, and_true, true_and, not_true_eq_false, not_false_eq_true, reduceIte, h1]
    have hfr := ftS_fr A T (ncA A) k
    have hup := ftS_up (T := T) (c := ncA A) hw hl k (by omega)
    have hup2 := hup.2.2
    refine c_foot1 (d := d) hR (hfr.wp hp) (hfr.v0 hv) (hfr.fs.ws hS) hB (by omega) (by rw [hfr.nc]; omega) (by omega) (jv_int _) (fun t' u' g' I' J' P' tb' ub' st' l3' l4' r1 r2 r3 r4 r5 => ?_)
    simp only [s_X4_printControlFoots_66, s_X4_printControlFoots_69, tl_some, tl_none, cv_int, cv_ref, cv_null, cv_long, cat_rf, jcv_nil, jcat_cons, jv_none, jv_int, jv_ref, jv_null, jw_rf, rf_some, rf_none, bz_0, bz_1, i1_0, i0_0, if_true, if_false, ite_self, List.nil_append, List.cons_append, Nat.reduceAdd, Nat.reduceLeDiff, Nat.zero_le, Nat.le_refl, and_self, and_true, true_and, not_true_eq_false, not_false_eq_true, reduceIte]
    refine ih (k + 1) (by omega) _ (fun h => ?_) (fun h => ?_) l3' l4' t' u' g' I' J' P' tb' ub' st' (by omega) r1 r3 (fun t2 u2 g2 I2 J2 P2 tb2 ub2 st2 z1 z2 z3 z4 z5 => K t2 u2 g2 I2 J2 P2 tb2 ub2 st2 z1 (r2.tr z2) z3 (by omega) (fun h => z5 (r5 h)))
    · have e : ncA A - k = ncA A - (k + 1) + 1 := by omega
      rw [e]
      exact nI_dec _
    · have e : ncA A - k = 0 := by omega
      rw [e]
      decide
theorem c_foots {lo : Nat} (hlo : lo ≤ ncA A + 1) (hR : Rel sv ω t g I J P A T tb ub) (hp : WfP A) (hv : V0 A) (hS : WfS A) (hB : Bd ω I A st) (hst : st + 10 < 999999) (hb : ln A + 180 ≤ 100000)
    (K : ∀ (t' u' : Nat) (g' : jG) (I' : tI) (J' : tJ) (P' : tP) (tb' ub' st' : Nat), Rel sv ω t' g' I' J' P' (ftS A T (ncA A) (ncA A + 1 - lo)).1 (ftS A T (ncA A) (ncA A + 1 - lo)).2 tb' ub' → Nx t u g I J P tb ub t' u' g' I' J' P' tb' ub' → Bd ω I' (ftS A T (ncA A) (ncA A + 1 - lo)).1 st' → st' ≤ st + 6 → (RI ω I A → RI ω I' (ftS A T (ncA A) (ncA A + 1 - lo)).1) → Q none (tv t' u' g' I' J' P')) :
    Ev sv (d + 12) (48, 0, [some (.ref (ω.1 0)), some (.int (nI lo)), none, none, none], []) (tv t u g I J P) Q := by
  have hw := hR.2.2.2.2.2.2.2.1
  have h5 := hw.2.2.1
  have c1 := hR.1.1
  have c8 : I 6 5 (ω.1 0) = nI (ncA A) := hR.1.2.2.2.2.2.2.2.1.trans h5.1
  simp only [s_X4_printControlFoots_0, s_X4_printControlFoots_0n, s_X4_printControlFoots_0z, s_X4_printControlFoots_1, s_X4_printControlFoots_4, tl_some, tl_none, cv_int, cv_ref, cv_null, cv_long, cat_rf, jcv_nil, jcat_cons, jv_none, jv_int, jv_ref, jv_null, jw_rf, rf_some, rf_none, bz_0, bz_1, i1_0, i0_0, if_true, if_false, ite_self, List.nil_append, List.cons_append, Nat.reduceAdd, Nat.reduceLeDiff, Nat.zero_le, Nat.le_refl, and_self, and_true, true_and, not_true_eq_false, not_false_eq_true, reduceIte, c1, c8]
  exact c_foots_loop hw hR.2.2.2.2.2.2.2.2.1 hp hv hS hb (ncA A + 1 - lo) 0 (by omega) _ (fun _ => rfl) (fun h => by omega) none none t u g I J P tb ub st (by omega) hR hB (fun t' u' g' I' J' P' tb' ub' st' r1 r2 r3 r4 r5 => K t' u' g' I' J' P' tb' ub' st' r1 r2 r3 (by omega) r5)
/-- the values are kept, the generating counted -/
theorem Rel.keep (hR : Rel sv ω t g I J P A T tb ub) (hv : V0 A) {f : Nat → Int32} (hf : ∀ k, k < 6 → f k = A 64 k) : Rel sv ω t g (upc (ups I 6 13 (ω.1 0) (I 6 13 (ω.1 0) + 1)) 61 (ω.1 4) f) J P (genB A) T tb ub := by
  have hfs := genB_fs A
  obtain ⟨hC, hV, hG, hS, hP, hD, htg, hw, hl, hs⟩ := hR
  obtain ⟨c1, c2, c3, c4, c5, c6, c7, c8, c9, c10, c11, c12, c13⟩ := hC
  obtain ⟨v1, v2, v3, v4, v5, v6, v7, v8⟩ := hV
  have o : ∀ κ, κ ≠ 61 → κ ≠ 6 → upc (ups I 6 13 (ω.1 0) (I 6 13 (ω.1 0) + 1)) 61 (ω.1 4) f κ = I κ := fun κ h1 h2 => by rw [upc_o h1, ups_o h2]
  have b7 : ∀ j, j ≠ 22 → genB A 7 j = A 7 j := fun j hj => by
    show upA (keepA A) 7 22 _ 7 j = _
    rw [upA_ap, if_neg (fun q => hj q.2)]
    exact kpA_o A (by decide) _
  have bo : ∀ κ j, κ ≠ 7 → κ ≠ 65 → genB A κ j = A κ j := fun κ j h1 h2 => by
    show upA (keepA A) 7 22 _ κ j = _
    rw [upA_ap, if_neg (fun q => h1 q.1)]
    exact kpA_o A h2 _
  have b22 : genB A 7 22 = A 7 22 + 1 := by
    show keepA A 7 22 + 1 = _
    rw [show keepA A 7 22 = A 7 22 from kpA_o A (by decide) _]
  refine ⟨⟨c1, c2, c3, c4, by rw [b7 1 (by decide)]; exact c5, by rw [b7 2 (by decide)]; exact c6, by rw [b7 3 (by decide)]; exact c7, by rw [b7 4 (by decide)]; exact c8, by rw [b7 21 (by decide)]; exact c9, by rw [b7 24 (by decide)]; exact c10, by rw [b7 25 (by decide)]; exact c11, ?_, by rw [b7 23 (by decide)]; exact c13⟩, ⟨v1, v2, v3, v4, v5, v6, fun k hk => by rw [bo 64 k (by decide) (by decide)]; exact v7 k hk, fun k hk => ?_⟩, hG.congr (fun κ j h1 h2 => bo κ j (by omega) (by omega)) (b7 5 (by decide)) (fun n f h => h.congr rfl rfl (fun _ _ => rfl) (gle_rf g)) (fun k b hk => rfl) (o 62 (by decide) (by decide)) rfl (gle_rf g), hS.congr (fun κ j h => bo κ j (by omega) (by omega)) (b7 6 (by decide)) (fun n f h => h.congr rfl rfl (fun _ _ => rfl) (gle_rf g)) (o 5 (by decide) (by decide)) rfl (gle_rf g), hP.congr (fun j => bo 78 j (by decide) (by decide)) (b7 28 (by decide)) (o 1 (by decide) (by decide)) (o 3 (by decide) (by decide)) (o 63 (by decide) (by decide)), hD, htg, hfs.wf hw, ?_, hs⟩
  · rw [b22]
    show (if 6 = 6 ∧ 13 = 13 ∧ ω.1 0 = ω.1 0 then I 6 13 (ω.1 0) + 1 else _) = _
    rw [if_pos ⟨rfl, rfl, rfl⟩, c12]
  · rw [upc_ap, if_pos ⟨rfl, rfl⟩, hf k hk]
    show A 64 k = upA (keepA A) 7 22 _ 65 k
    rw [upA_ap, if_neg (fun q => absurd q.1 (by decide))]
    have kp : ∀ n k, kpA A n 65 k = if 1 ≤ k ∧ k ≤ n then A 64 k else A 65 k := by
      intro n
      induction n with
      | zero => intro k; rw [if_neg (by omega)]; rfl
      | succ n ih =>
        intro k
        show upA (kpA A n) 65 (n + 1) (A 64 (n + 1)) 65 k = _
        rw [upA_ap]
        by_cases h : k = n + 1
        · rw [if_pos ⟨rfl, h⟩, if_pos (by omega), h]
        · rw [if_neg (fun q => h q.2), ih]
          by_cases h2 : 1 ≤ k ∧ k ≤ n
          · rw [if_pos h2, if_pos (by omega)]
          · rw [if_neg h2, if_neg (by omega)]
    show A 64 k = kpA A (ncA A) 65 k
    rw [kp]
    by_cases h : 1 ≤ k ∧ k ≤ ncA A
    · rw [if_pos h]
    · rw [if_neg h, (hv k (by omega)).1, (hv k (by omega)).2]
  · have e28 := b7 28 (by decide)
    have e : ln (genB A) = ln A := by unfold ln; rw [e28]
    unfold LnA
    rw [e28, e]
    exact hl
theorem genB_v0 (hv : V0 A) : V0 (genB A) := by
  intro j hj
  have hnc : ncA (genB A) = ncA A := (genB_fs A).nc
  rw [hnc] at hj
  have h := hv j hj
  constructor
  · show upA (keepA A) 7 22 _ 64 j = 0
    rw [upA_ap, if_neg (fun q => absurd q.1 (by decide))]
    exact (kpA_o A (by decide) _).trans h.1
  · show upA (keepA A) 7 22 _ 65 j = 0
    rw [upA_ap, if_neg (fun q => absurd q.1 (by decide))]
    have kp : ∀ n, n ≤ ncA A → kpA A n 65 j = A 65 j := by
      intro n
      induction n with
      | zero => intro _; rfl
      | succ n ih =>
        intro hn
        show upA (kpA A n) 65 (n + 1) (A 64 (n + 1)) 65 j = _
        rw [upA_ap, if_neg (fun q => by have := q.2; omega), ih (by omega)]
    show kpA A (ncA A) 65 j = 0
    rw [kp _ (Nat.le_refl _)]
    exact h.2
/-- from the counting of the generating on -/
theorem c_gen_tail (hR : Rel sv ω t g I J P A T tb ub) (hp : WfP A) (hv : V0 A) (hB : Bd ω I A st) (hRI : RI ω I A) (hst : st + 1 < 1000000) {det : Nat} {X : Int64} {l5 l6 : Int32} (hd : det ≤ ngA A) (hd3 : ¬ det = 0 → A 66 det = 3) (hb : ln A + 30 ≤ 100000)
    (K : ∀ (t' u' : Nat) (g' : jG) (I' : tI) (J' : tJ) (P' : tP) (tb' ub' st' : Nat), Rel sv ω t' g' I' J' P' (inBodyA (genB A) det X.toInt32) (adT (genB A) T (nI det) X (nsA A)) tb' ub' → Nx t u g I J P tb ub t' u' g' I' J' P' tb' ub' → Bd ω I' (inBodyA (genB A) det X.toInt32) st' → st' ≤ st + 1 → RI ω I' (inBodyA (genB A) det X.toInt32) → Q (some (.int (inBodyA (genB A) det X.toInt32 7 28 - l5))) (tv t' u' g' I' J' P')) :
    Ev sv (d + 12) (18, 135, [some (.ref (ω.1 0)), some (.int (nI det)), some (.long X), none, some (va_rf (gR ω det)), some (.int l5), some (.int l6)], []) (tv t u g I J P) Q := by
  have c1 := hR.1.1
  have hw := hR.2.2.2.2.2.2.2.1
  have h20 := hw.1.2
  obtain ⟨v1, v2, v3, v4, v5, v6, v7, v8⟩ := hR.2.1
  have hofn : Int32.ofNat 6 = 6 := rfl
  have hcl6 : (6 : Int32).toNatClampNeg = 6 := by decide
  have hcl0 : (0 : Int32).toNatClampNeg = 0 := by decide
  have S : Ev sv (d + 12) (18, 135, [some (.ref (ω.1 0)), some (.int (nI det)), some (.long X), none, some (va_rf (gR ω det)), some (.int l5), some (.int l6)], []) (tv t u g I J P) Q ↔ Ev sv (d + 12) (18, 160, [some (.ref (ω.1 0)), some (.int (nI det)), some (.long X), none, some (va_rf (gR ω det)), some (.int l5), some (.int l6)], [.int 6, .int 0, .ref (ω.1 4), .int 0, .ref (ω.1 3)]) (tv t u g (ups I 6 13 (ω.1 0) (I 6 13 (ω.1 0) + 1)) J P) Q := by
    simp only [s_X4_generate_135, s_X4_generate_135n, s_X4_generate_135z, s_X4_generate_136, s_X4_generate_137, s_X4_generate_140, s_X4_generate_141, s_X4_generate_142, s_X4_generate_145, s_X4_generate_145n, s_X4_generate_145z, s_X4_generate_146, s_X4_generate_149, s_X4_generate_150, s_X4_generate_150n, s_X4_generate_150z, s_X4_generate_151, s_X4_generate_154, s_X4_generate_155, s_X4_generate_155n, s_X4_generate_155z, s_X4_generate_156, s_X4_generate_159, tl_some, tl_none, cv_int, cv_ref, cv_null, cv_long, cat_rf, jcv_nil, jcat_cons, jv_none, jv_int, jv_ref, jv_null, jw_rf, rf_some, rf_none, bz_0, bz_1, i1_0, i0_0, if_true, if_false, ite_self, List.nil_append, List.cons_append, Nat.reduceAdd, Nat.reduceLeDiff, Nat.zero_le, Nat.le_refl, and_self, and_true, true_and, not_true_eq_false, not_false_eq_true, reduceIte, c1, v1, v2, v3, v4, hofn]
  refine S.mpr ((s_X4_generate_160 v3 v5 ⟨by decide, by decide, by decide⟩ (by rw [v4, v6, hcl6, hcl0]; omega) (by rw [jcv_nil]; decide)).mpr ?_)
  rw [hcl6, hcl0]
  have hR1 := hR.keep hv (f := va_cpy (fun k => ups I 6 13 (ω.1 0) (I 6 13 (ω.1 0) + 1) 60 k (ω.1 3)) (fun k => ups I 6 13 (ω.1 0) (I 6 13 (ω.1 0) + 1) 61 k (ω.1 4)) 0 0 6) (fun k hk => by
    unfold va_cpy
    rw [if_pos ⟨by omega, by omega⟩]
    show I 60 (0 + (k - 0)) (ω.1 3) = _
    rw [Nat.zero_add, Nat.sub_zero]
    exact v7 k hk)
  generalize hI1 : upc (ups I 6 13 (ω.1 0) (I 6 13 (ω.1 0) + 1)) 61 (ω.1 4) (va_cpy (fun k => ups I 6 13 (ω.1 0) (I 6 13 (ω.1 0) + 1) 60 k (ω.1 3)) (fun k => ups I 6 13 (ω.1 0) (I 6 13 (ω.1 0) + 1) 61 k (ω.1 4)) 0 0 6) = I1 at hR1
  have hN1 : Nx t u g I J P tb ub t u g I1 J P tb ub := Nx_I (fun κ hκ => by rw [← hI1, upc_o (by omega), ups_o (by omega)])
  have e12 : I1 6 12 (ω.1 0) = I 6 12 (ω.1 0) := by rw [← hI1]; rfl
  have e15 : I1 6 15 (ω.1 0) = I 6 15 (ω.1 0) := by rw [← hI1]; rfl
  have e9 : ∀ b, I1 2 9 b = I 2 9 b := fun b => by rw [← hI1]; rfl
  have hfs := genB_fs A
  have bo : ∀ κ j, κ ≠ 7 → κ ≠ 65 → genB A κ j = A κ j := fun κ j h1 h2 => by
    show upA (keepA A) 7 22 _ κ j = _
    rw [upA_ap, if_neg (fun q => h1 q.1)]
    exact kpA_o A h2 _
  have b26 : genB A 7 26 = A 7 26 := kpA_o A (by decide) _
  have hp1 : WfP (genB A) := hfs.wp (fun j => bo 72 j (by decide) (by decide)) hp
  simp only [s_X4_generate_163, s_X4_generate_163n, s_X4_generate_163z, s_X4_generate_164, s_X4_generate_165, s_X4_generate_166, tl_some, tl_none, cv_int, cv_ref, cv_null, cv_long, cat_rf, jcv_nil, jcat_cons, jv_none, jv_int, jv_ref, jv_null, jw_rf, rf_some, rf_none, bz_0, bz_1, i1_0, i0_0, if_true, if_false, ite_self, List.nil_append, List.cons_append, Nat.reduceAdd, Nat.reduceLeDiff, Nat.zero_le, Nat.le_refl, and_self, and_true, true_and, not_true_eq_false, not_false_eq_true, reduceIte, c1]
  refine c_addTo (d := d + 8) (det := det) (by omega) hR1 (fun J2 r1 r2 => ?_)
  simp only [s_X4_generate_169, s_X4_generate_169n, s_X4_generate_169z, s_X4_generate_170, s_X4_generate_170n, s_X4_generate_170z, s_X4_generate_172, s_X4_generate_173, tl_some, tl_none, cv_int, cv_ref, cv_null, cv_long, cat_rf, jcv_nil, jcat_cons, jv_none, jv_int, jv_ref, jv_null, jw_rf, rf_some, rf_none, bz_0, bz_1, i1_0, i0_0, if_true, if_false, ite_self, List.nil_append, List.cons_append, Nat.reduceAdd, Nat.reduceLeDiff, Nat.zero_le, Nat.le_refl, and_self, and_true, true_and, not_true_eq_false, not_false_eq_true, reduceIte, c1, cat_rf]
  have hB1 : Bd ω I1 (genB A) st := ⟨by rw [e12, b26]; exact hB.1, by rw [b26]; exact hB.2.1, hB.2.2.kp e15 e9 hfs.ng⟩
  have hRI1 : RI ω I1 (genB A) := fun j hj h66 => by
    rw [e15, e9, bo 73 _ (by decide) (by decide)]
    exact hRI j (by rw [← hfs.ng]; exact hj) (by rw [← bo 66 _ (by decide) (by decide)]; exact h66)
  have eln : ln (genB A) = ln A := by unfold ln; rw [genB_28]
  refine c_inBody (d := d) r1 hp1 hB1 hst (gi := det) (by rw [hfs.ng]; exact hd) (fun h0 => ?_) (fun _ _ => hRI1) (by rw [eln]; exact hb) (fun t' u' g' I' J' P' tb' ub' st' q1 q2 q3 q4 q5 => ?_)
  · rw [inb, bo 66 _ (by decide) (by decide)]
    exact Or.inr (Or.inl (hd3 h0))
  · have c1' := q1.1.1
    have c4' := q1.1.2.2.2.1
    have p1' := q1.2.2.2.2.1.1
    have p3' := q1.2.2.2.2.1.2.2.1
    simp only [s_X4_generate_176, s_X4_generate_176n, s_X4_generate_176z, s_X4_generate_177, s_X4_generate_180, s_X4_generate_183, s_X4_generate_185, s_X4_generate_186, tl_some, tl_none, cv_int, cv_ref, cv_null, cv_long, cat_rf, jcv_nil, jcat_cons, jv_none, jv_int, jv_ref, jv_null, jw_rf, rf_some, rf_none, bz_0, bz_1, i1_0, i0_0, if_true, if_false, ite_self, List.nil_append, List.cons_append, Nat.reduceAdd, Nat.reduceLeDiff, Nat.zero_le, Nat.le_refl, and_self, and_true, true_and, not_true_eq_false, not_false_eq_true, reduceIte, c1', c4', p1', p3']
    rw [hfs.ns] at q1
    exact K t' u' g' I' J' P' tb' ub' st' q1 ((hN1.tr (Nx_J r2)).tr q2) q3 q4 (q5 hRI1)
end
