-- ===== generate =====
/-- what holds between calls -/
def Inv (ω : Wd) (I : tI) (A : Nat → Nat → Int32) (st : Nat) : Prop := WfP A ∧ V0 A ∧ WfS A ∧ RT ω I A st ∧ (∃ n, A 7 22 = nI n ∧ n ≤ 200 ∧ ln A ≤ 330 * n + 200 ∧ (¬ A 7 21 = 0 → ln A ≤ 330 * n)) ∧ (¬ A 7 21 = 0 → I 6 12 (ω.1 0) = A 7 26 ∧ (∃ b, A 7 26 = nI b ∧ b ≤ 1000)) ∧ (¬ A 7 21 = 0 → ¬ A 7 22 = 0 → RI ω I A)
theorem genB_wp {A : Nat → Nat → Int32} (hp : WfP A) : WfP (genB A) := (genB_fs A).wp (fun j => by
  show upA (keepA A) 7 22 _ 72 j = _
  rw [upA_ap, if_neg (fun q => absurd q.1 (by decide))]
  exact kpA_o A (by decide) _) hp
theorem brkA_wp {A : Nat → Nat → Int32} (hp : WfP A) : WfP (brkA A) := (brkA_fs A).wp (fun _ => rfl) hp
theorem genP_is (A : Nat → Nat → Int32) (T : Nat → Int64) : fr A (genP A T).1 ∨ fr (brkA A) (genP A T).1 := by
  unfold genP
  split
  · exact Or.inl (gen1A_fr A)
  · split
    · exact Or.inr (((ftS_fr _ _ _ _).tr (freshA_fr _)).tr (hdA_fr _ _ _))
    · exact Or.inl (fr_rf A)
theorem genP_wp {A : Nat → Nat → Int32} {T : Nat → Int64} (hp : WfP A) : WfP (genP A T).1 := by
  rcases genP_is A T with h | h
  · exact h.wp hp
  · exact h.wp (brkA_wp hp)
theorem genP_v0 {A : Nat → Nat → Int32} {T : Nat → Int64} (hv : V0 A) : V0 (genP A T).1 := by
  rcases genP_is A T with h | h
  · exact h.v0 hv
  · exact h.v0 (show V0 (brkA A) from hv)
theorem genP_o {A : Nat → Nat → Int32} {T : Nat → Int64} {j : Nat} (hj : j = 21 ∨ j = 22) : (genP A T).1 7 j = A 7 j := by
  rcases genP_is A T with h | h
  · rcases hj with rfl | rfl <;> exact h 7 _ rfl
  · rcases hj with rfl | rfl <;> exact h 7 _ rfl
theorem genA_22 (A : Nat → Nat → Int32) (T : Nat → Int64) (det : Nat) (X : Int64) : genA A T det X 7 22 = A 7 22 + 1 := by
  unfold genA
  rw [inBodyA_fr _ _ _ 7 22 rfl]
  show keepA (genP A T).1 7 22 + 1 = _
  rw [show keepA (genP A T).1 7 22 = (genP A T).1 7 22 from kpA_o _ (by decide) _, genP_o (Or.inr rfl)]
theorem genA_21 (A : Nat → Nat → Int32) (T : Nat → Int64) (det : Nat) (X : Int64) : genA A T det X 7 21 = A 7 21 := by
  unfold genA
  rw [inBodyA_fr _ _ _ 7 21 rfl]
  show keepA (genP A T).1 7 21 = _
  rw [show keepA (genP A T).1 7 21 = (genP A T).1 7 21 from kpA_o _ (by decide) _, genP_o (Or.inl rfl)]
theorem hdA_73 {A : Nat → Nat → Int32} {lo j : Nat} (h1 : 1 ≤ j) (hj : j < 21) (h : A 73 j = 0) (h3 : A 66 j = 3) : ∀ n, hdA A lo n 73 j = 0
  | 0 => h
  | n + 1 => by
    show inBodyA (hdA A lo n) (gF (hdA A lo n) 2 (nI (lo + n))) _ 73 j = 0
    refine inBodyA_73 hj (hdA_73 h1 hj h h3 n) (fun q => ?_)
    by_cases h0 : gF (hdA A lo n) 2 (nI (lo + n)) = 0
    · omega
    · have := (gF_hit h0).1
      rw [← q, (hdA_fr A lo n) 66 j rfl, h3] at this
      exact absurd this (by decide)
section
variable {sv : Nat → Value} {d t u : Nat} {Q : Option Value → jM → Prop} {g : jG} {I I' : tI} {J : tJ} {P : tP} {A B : Nat → Nat → Int32} {T T' : Nat → Int64} {ω : Wd} {tb ub st : Nat} {x y z : Int32}
theorem Rel.fresh (hR : Rel sv ω t g I J P A T tb ub) : Rel sv ω t g I J P (freshA A) T tb ub := by
  have e7 : ∀ j, freshA A 7 j = A 7 j := fun j => frs_o A (by decide) 21
  obtain ⟨c1, c2, c3, c4, c5, c6, c7, c8, c9, c10, c11, c12, c13⟩ := hR.1
  exact hR.scal ⟨c1, c2, c3, c4, by rw [e7]; exact c5, by rw [e7]; exact c6, by rw [e7]; exact c7, by rw [e7]; exact c8, by rw [e7]; exact c9, by rw [e7]; exact c10, by rw [e7]; exact c11, by rw [e7]; exact c12, by rw [e7]; exact c13⟩ (fun _ _ => rfl) (fun κ j h1 h2 => frs_o A h2 21) (freshA_fr A).fs (e7 28)
theorem Rel.brk (hR : Rel sv ω t g I J P A T tb ub) : Rel sv ω t g (ups I 6 14 (ω.1 0) (I 6 14 (ω.1 0) + 1)) J P (brkA A) T tb ub := by
  obtain ⟨c1, c2, c3, c4, c5, c6, c7, c8, c9, c10, c11, c12, c13⟩ := hR.1
  refine hR.scal ⟨c1, c2, c3, c4, c5, c6, c7, c8, c9, c10, c11, c12, ?_⟩ (fun κ h => ups_o h) (fun κ j h1 h2 => ?_) (brkA_fs A) rfl
  · rw [ups_ap, if_pos ⟨rfl, rfl, rfl⟩, c13]
    rfl
  · show upA A 7 23 _ κ j = _
    rw [upA_ap, if_neg (fun q => h1 q.1)]
theorem Rel.str (hR : Rel sv ω t g I J P A T tb ub) {y : Int32} : Rel sv ω t g (ups I 6 15 (ω.1 0) y) J P A T tb ub := hR.scal hR.1 (fun κ h => ups_o h) (fun _ _ _ _ => rfl) (fs_rf A) rfl
/-- a generating that isn't refused -/
theorem c_gen_go (hR : Rel sv ω t g I J P A T tb ub) (hV : Inv ω I A st) (hst : st + 30 < 999999) (h21 : ¬ A 7 21 = 0) (h22 : ¬ A 7 22 = 200) {det : Nat} {X : Int64} (hd : det ≤ ngA A) (hd3 : ¬ det = 0 → A 66 det = 3)
    (K : ∀ (t' u' : Nat) (g' : jG) (I' : tI) (J' : tJ) (P' : tP) (tb' ub' st' : Nat), Rel sv ω t' g' I' J' P' (genA A T det X) (genT A T det X) tb' ub' → Nx t u g I J P tb ub t' u' g' I' J' P' tb' ub' → Inv ω I' (genA A T det X) st' → st' ≤ st + 20 → Q (some (.int (genA A T det X 7 28 - A 7 28))) (tv t' u' g' I' J' P')) :
    Ev sv (d + 13) (18, 50, [some (.ref (ω.1 0)), some (.int (nI det)), some (.long X), none, some (va_rf (gR ω det)), none, none], []) (tv t u g I J P) Q := by
  obtain ⟨hp, hv, hS, hT, ⟨n, hn1, hn2, hn3, hn4⟩, hB1, hRI1⟩ := hV
  have hB1 := hB1 h21
  have hn5 := hn4 h21
  have hn6 : n ≤ 199 := by
    by_cases e : n = 200
    · rw [e] at hn1; exact absurd hn1 h22
    · omega
  have hB : Bd ω I A st := ⟨hB1.1, hB1.2, hT⟩
  have hw := hR.2.2.2.2.2.2.2.1
  have hl := hR.2.2.2.2.2.2.2.2.1
  have h5 := hw.2.2.1
  have c1 := hR.1.1
  have c4 := hR.1.2.2.2.1
  have c8 : I 6 5 (ω.1 0) = nI (ncA A) := hR.1.2.2.2.2.2.2.2.1.trans h5.1
  have c12 := hR.1.2.2.2.2.2.2.2.2.2.2.2.1
  have p1 := hR.2.2.2.2.1.1
  have p3 := hR.2.2.2.2.1.2.2.1
  have hch := fun (Q : Option Value → jM → Prop) => c_changed (Q := Q) (sv := sv) (d := d + 12) (u := u) hR
  -- the end, from the lines ahead of the sums on
  have E : ∀ (t' u' : Nat) (g' : jG) (I' : tI) (J' : tJ) (P' : tP) (tb' ub' st' : Nat), Rel sv ω t' g' I' J' P' (genP A T).1 (genP A T).2 tb' ub' → Nx t u g I J P tb ub t' u' g' I' J' P' tb' ub' → Bd ω I' (genP A T).1 st' → st' ≤ st + 19 → RI ω I' (genP A T).1 → Ev sv (d + 13) (18, 135, [some (.ref (ω.1 0)), some (.int (nI det)), some (.long X), none, some (va_rf (gR ω det)), some (.int (A 7 28)), some (.int (nI (chA A)))], []) (tv t' u' g' I' J' P') Q := by
    intro t' u' g' I' J' P' tb' ub' st' r1 r2 r3 r4 r5
    have hfs := genP_fs A T
    have hup := genP_up (T := T) hw hl (by omega)
    have hup2 := hup.2.2
    refine c_gen_tail (d := d + 1) r1 (genP_wp hp) (genP_v0 hv) r3 r5 (by omega) (by rw [hfs.ng]; exact hd) (fun h0 => by rw [hfs 66 _ rfl]; exact hd3 h0) (by omega) (fun t2 u2 g2 I2 J2 P2 tb2 ub2 st2 z1 z2 z3 z4 z5 => ?_)
    rw [hfs.ns] at z1
    refine K t2 u2 g2 I2 J2 P2 tb2 ub2 st2 z1 (r2.tr z2) ⟨(inBodyA_fr _ _ _).wp (genB_wp (genP_wp hp)), (inBodyA_fr _ _ _).v0 (genB_v0 (genP_v0 hv)), (genA_fs A T det X).ws hS, z3.2.2, ⟨n + 1, ?_, by omega, ?_, fun _ => ?_⟩, fun _ => ⟨z3.1, z3.2.1⟩, fun _ _ => z5⟩ (by omega)
    · rw [genA_22, hn1, nIs]
    · have := (genA_up (T := T) (det := det) (X := X) hw hl (by omega)).2.2
      omega
    · have := (genA_up (T := T) (det := det) (X := X) hw hl (by omega)).2.2
      omega
  by_cases h0 : A 7 22 = 0
  · have eP : genP A T = (gen1A A, T) := if_pos h0
    rw [eP] at E
    have hgo := fun (Q : Option Value → jM → Prop) => c_groupOf (Q := Q) (sv := sv) (d := d + 9) (u := u) (kd := 0) (lv := 0) hR hp.2.2.2 (by decide)
    simp only [s_X4_generate_50, s_X4_generate_50n, s_X4_generate_50z, s_X4_generate_51, s_X4_generate_54, s_X4_generate_57, s_X4_generate_59, s_X4_generate_59n, s_X4_generate_59z, s_X4_generate_60, s_X4_generate_63, s_X4_generate_65, s_X4_generate_65n, s_X4_generate_65z, s_X4_generate_66, s_X4_generate_69, s_X4_generate_72, s_X4_generate_72n, s_X4_generate_72z, s_X4_generate_73, s_X4_generate_73n, s_X4_generate_73z, s_X4_generate_74, s_X4_generate_75, s_X4_generate_76, s_X4_generate_79, tl_some, tl_none, cv_int, cv_ref, cv_null, cv_long, cat_rf, jcv_nil, jcat_cons, jv_none, jv_int, jv_ref, jv_null, jw_rf, rf_some, rf_none, bz_0, bz_1, i1_0, i0_0, if_true, if_false, ite_self, List.nil_append, List.cons_append, Nat.reduceAdd, Nat.reduceLeDiff, Nat.zero_le, Nat.le_refl, and_self, and_true, true_and, not_true_eq_false, not_false_eq_true, reduceIte, c1, c4, p1, p3, hch, c12, h0, hgo, cat_rf]
    refine c_alone (d := d + 3) hR (Or.inl rfl) (by omega) (fun t2 u2 g2 I2 J2 P2 tb2 ub2 q1 q2 q3 q4 => ?_)
    have c1b := q1.1.1
    simp only [s_X4_generate_82, s_X4_generate_82n, s_X4_generate_82z, s_X4_generate_83, tl_some, tl_none, cv_int, cv_ref, cv_null, cv_long, cat_rf, jcv_nil, jcat_cons, jv_none, jv_int, jv_ref, jv_null, jw_rf, rf_some, rf_none, bz_0, bz_1, i1_0, i0_0, if_true, if_false, ite_self, List.nil_append, List.cons_append, Nat.reduceAdd, Nat.reduceLeDiff, Nat.zero_le, Nat.le_refl, and_self, and_true, true_and, not_true_eq_false, not_false_eq_true, reduceIte, c1b]
    have hfa := aloneA_fr A 0
    have hua := aloneA_up (kd := 0) hw hl (by omega)
    have hua2 := hua.2.2
    have hpa := hfa.wp hp
    refine c_beginPage (d := d + 2) q1 hpa.2.2.2 (by omega) (fun t3 u3 g3 I3 J3 P3 tb3 ub3 z1 z2 z3 z4 z5 => ?_)
    have c1c := z1.1.1
    have i0 : (0 : Int32) = nI 0 := rfl
    have hfb := beginA_fr (aloneA A 0)
    have hub := beginA_up q1.2.2.2.2.2.2.2.1 hua.1 (by omega)
    have hub2 := hub.2.2
    have hT2 : RT ω I2 (aloneA A 0) st := hT.kp q3 q4 hfa.ng
    have hT3 := hT2.up (B := beginA (aloneA A 0)) z4 z5 hfb.ng (by omega)
    have hw3 := z1.2.2.2.2.2.2.2.1
    have hRI3 : RI ω I3 (beginA (aloneA A 0)) := by
      refine hT2.ri (by rw [z4, hT2.1, nIs]) z5 hfb.ng (by omega) (fun j hj _ => beginA_73 _ ?_) (fun j => hfb 66 j rfl)
      have := hw3.1.2
      omega
    have z26 := beginA_26 (aloneA A 0)
    have hB3 : Bd ω I3 (beginA (aloneA A 0)) (st + 1) := ⟨by rw [z3, z26], ⟨0, z26, by omega⟩, hT3⟩
    simp only [s_X4_generate_86, s_X4_generate_86n, s_X4_generate_86z, s_X4_generate_87, s_X4_generate_88, tl_some, tl_none, cv_int, cv_ref, cv_null, cv_long, cat_rf, jcv_nil, jcat_cons, jv_none, jv_int, jv_ref, jv_null, jw_rf, rf_some, rf_none, bz_0, bz_1, i1_0, i0_0, if_true, if_false, ite_self, List.nil_append, List.cons_append, Nat.reduceAdd, Nat.reduceLeDiff, Nat.zero_le, Nat.le_refl, and_self, and_true, true_and, not_true_eq_false, not_false_eq_true, reduceIte, c1c]
    rw [i0]
    refine c_heads (d := d) (lo := 0) (by omega) z1 (hfb.wp hpa) (hfb.v0 (hfa.v0 hv)) hB3 (by omega) (by omega) (fun t4 u4 g4 I4 J4 P4 tb4 ub4 st4 w1 w2 w3 w4 w5 => ?_)
    have enc : ncA (beginA (aloneA A 0)) + 1 - 0 = ncA A + 1 := by rw [hfb.nc, hfa.nc]; rfl
    rw [enc] at w1 w3 w5
    simp only [s_X4_generate_91, tl_some, tl_none, cv_int, cv_ref, cv_null, cv_long, cat_rf, jcv_nil, jcat_cons, jv_none, jv_int, jv_ref, jv_null, jw_rf, rf_some, rf_none, bz_0, bz_1, i1_0, i0_0, if_true, if_false, ite_self, List.nil_append, List.cons_append, Nat.reduceAdd, Nat.reduceLeDiff, Nat.zero_le, Nat.le_refl, and_self, and_true, true_and, not_true_eq_false, not_false_eq_true, reduceIte]
    exact E t4 u4 g4 I4 J4 P4 tb4 ub4 st4 w1 ((q2.tr z2).tr w2) w3 (by omega) (w5 hRI3)
  · have hRI := hRI1 h21 h0
    by_cases hc : chA A ≤ ncA A
    · have eP : genP A T = gen2 A T (chA A) := by
        unfold genP
        rw [if_neg h0, if_pos hc]
      rw [eP] at E
      have hlt : ¬ nI (ncA A) < nI (chA A) := nI_nlt hc (by omega)
      have hpos := chA_pos A
      simp only [s_X4_generate_50, s_X4_generate_50n, s_X4_generate_50z, s_X4_generate_51, s_X4_generate_54, s_X4_generate_57, s_X4_generate_59, s_X4_generate_59n, s_X4_generate_59z, s_X4_generate_60, s_X4_generate_63, s_X4_generate_65, s_X4_generate_65n, s_X4_generate_65z, s_X4_generate_66, s_X4_generate_69, s_X4_generate_94, s_X4_generate_96, s_X4_generate_96n, s_X4_generate_96z, s_X4_generate_97, s_X4_generate_100, s_X4_generate_103, s_X4_generate_103n, s_X4_generate_103z, s_X4_generate_104, s_X4_generate_105, s_X4_generate_108, s_X4_generate_109, s_X4_generate_110, s_X4_generate_113, s_X4_generate_113n, s_X4_generate_113z, s_X4_generate_114, s_X4_generate_116, tl_some, tl_none, cv_int, cv_ref, cv_null, cv_long, cat_rf, jcv_nil, jcat_cons, jv_none, jv_int, jv_ref, jv_null, jw_rf, rf_some, rf_none, bz_0, bz_1, i1_0, i0_0, if_true, if_false, ite_self, List.nil_append, List.cons_append, Nat.reduceAdd, Nat.reduceLeDiff, Nat.zero_le, Nat.le_refl, and_self, and_true, true_and, not_true_eq_false, not_false_eq_true, reduceIte, c1, c4, c8, p1, p3, hch, c12, h0, hlt]
      have hRb := hR.brk
      have hTb : RT ω (ups I 6 14 (ω.1 0) (I 6 14 (ω.1 0) + 1)) (brkA A) st := hT.kp rfl (fun _ => rfl) rfl
      have hBb : Bd ω (ups I 6 14 (ω.1 0) (I 6 14 (ω.1 0) + 1)) (brkA A) st := ⟨hB.1, hB.2.1, hTb⟩
      have hpb := brkA_wp hp
      have hSb := (brkA_fs A).ws hS
      have hwb := (brkA_fs A).wf hw
      have hlb : LnA (brkA A) := hl
      have elb : ln (brkA A) = ln A := rfl
      have hNb : Nx t u g I J P tb ub t u g (ups I 6 14 (ω.1 0) (I 6 14 (ω.1 0) + 1)) J P tb ub := Nx_I (fun κ hκ => ups_o (by omega))
      refine c_foots (d := d) (lo := chA A) (by show chA A ≤ ncA A + 1; omega) hRb hpb (show V0 (brkA A) from hv) hSb hBb (by omega) (by omega) (fun t2 u2 g2 I2 J2 P2 tb2 ub2 st2 q1 q2 q3 q4 q5 => ?_)
      have enc : ncA (brkA A) = ncA A := rfl
      rw [enc] at q1 q3 q5
      have hff := ftS_fr (brkA A) T (ncA A) (ncA A + 1 - chA A)
      have huf := ftS_up (T := T) (c := ncA A) hwb hlb (ncA A + 1 - chA A) (by omega)
      have huf2 := huf.2.2
      unfold gen2 at E
      generalize hF : ftS (brkA A) T (ncA A) (ncA A + 1 - chA A) = F at q1 q3 q5 hff huf huf2 E
      have c1b := q1.1.1
      simp only [s_X4_generate_119, s_X4_generate_119n, s_X4_generate_119z, s_X4_generate_120, s_X4_generate_122, tl_some, tl_none, cv_int, cv_ref, cv_null, cv_long, cat_rf, jcv_nil, jcat_cons, jv_none, jv_int, jv_ref, jv_null, jw_rf, rf_some, rf_none, bz_0, bz_1, i1_0, i0_0, if_true, if_false, ite_self, List.nil_append, List.cons_append, Nat.reduceAdd, Nat.reduceLeDiff, Nat.zero_le, Nat.le_refl, and_self, and_true, true_and, not_true_eq_false, not_false_eq_true, reduceIte, c1b]
      have hfh := freshA_fr F.1
      have e26 : freshA F.1 7 26 = F.1 7 26 := frs_o F.1 (by decide) 21
      have e28 : freshA F.1 7 28 = F.1 7 28 := frs_28 F.1 21
      have hlf := (lnUp_same e28 huf.1).2.2
      have hBf : Bd ω I2 (freshA F.1) st2 := ⟨by rw [e26]; exact q3.1, by rw [e26]; exact q3.2.1, q3.2.2.kp rfl (fun _ => rfl) hfh.ng⟩
      have encf : ncA (freshA F.1) = ncA A := by rw [hfh.nc, hff.nc]; rfl
      refine c_heads (d := d) (lo := chA A) (by rw [encf]; omega) q1.fresh (hfh.wp (hff.wp hpb)) (hfh.v0 (hff.v0 (show V0 (brkA A) from hv))) hBf (by omega) (by omega) (fun t3 u3 g3 I3 J3 P3 tb3 ub3 st3 z1 z2 z3 z4 z5 => ?_)
      rw [encf] at z1 z3
      have c1c := z1.1.1
      simp only [s_X4_generate_125, s_X4_generate_125n, s_X4_generate_125z, s_X4_generate_126, s_X4_generate_127, s_X4_generate_130, s_X4_generate_131, s_X4_generate_132, tl_some, tl_none, cv_int, cv_ref, cv_null, cv_long, cat_rf, jcv_nil, jcat_cons, jv_none, jv_int, jv_ref, jv_null, jw_rf, rf_some, rf_none, bz_0, bz_1, i1_0, i0_0, if_true, if_false, ite_self, List.nil_append, List.cons_append, Nat.reduceAdd, Nat.reduceLeDiff, Nat.zero_le, Nat.le_refl, and_self, and_true, true_and, not_true_eq_false, not_false_eq_true, reduceIte, c1c]
      have hN3 : Nx t3 u3 g3 I3 J3 P3 tb3 ub3 t3 u3 g3 (ups I3 6 15 (ω.1 0) (I3 6 15 (ω.1 0) + 1)) J3 P3 tb3 ub3 := Nx_I (fun κ hκ => ups_o (by omega))
      have hfd := hdA_fr (freshA F.1) (chA A) (ncA A + 1 - chA A)
      have e15 : ups I3 6 15 (ω.1 0) (I3 6 15 (ω.1 0) + 1) 6 15 (ω.1 0) = I3 6 15 (ω.1 0) + 1 := by rw [ups_ap, if_pos ⟨rfl, rfl, rfl⟩]
      have hT4 := z3.2.2.up (B := hdA (freshA F.1) (chA A) (ncA A + 1 - chA A)) e15 (fun _ => rfl) rfl (by omega)
      refine E t3 u3 g3 _ J3 P3 tb3 ub3 (st3 + 1) z1.str (((hNb.tr q2).tr z2).tr hN3) ⟨z3.1, z3.2.1, hT4⟩ (by omega) ?_
      refine z3.2.2.ri (B := hdA (freshA F.1) (chA A) (ncA A + 1 - chA A)) (by rw [e15, z3.2.2.1, nIs]) (fun _ => rfl) rfl (by omega) (fun j hj h3 => ?_) (fun _ => rfl)
      have hj20 := z1.2.2.2.2.2.2.2.1.1.2
      refine hdA_73 (by omega) (by omega) ?_ (by rw [← hfd 66 _ rfl]; exact h3) _
      show frs F.1 21 73 (j + 1) = 0
      rw [frs_73, if_pos (by omega)]
    · have eP : genP A T = (A, T) := by
        unfold genP
        rw [if_neg h0, if_neg hc]
      rw [eP] at E
      have hle := chA_le A
      have hlt : nI (ncA A) < nI (chA A) := nI_lt (by omega) (by omega)
      simp only [s_X4_generate_50, s_X4_generate_50n, s_X4_generate_50z, s_X4_generate_51, s_X4_generate_54, s_X4_generate_57, s_X4_generate_59, s_X4_generate_59n, s_X4_generate_59z, s_X4_generate_60, s_X4_generate_63, s_X4_generate_65, s_X4_generate_65n, s_X4_generate_65z, s_X4_generate_66, s_X4_generate_69, s_X4_generate_94, s_X4_generate_96, s_X4_generate_96n, s_X4_generate_96z, s_X4_generate_97, s_X4_generate_100, tl_some, tl_none, cv_int, cv_ref, cv_null, cv_long, cat_rf, jcv_nil, jcat_cons, jv_none, jv_int, jv_ref, jv_null, jw_rf, rf_some, rf_none, bz_0, bz_1, i1_0, i0_0, if_true, if_false, ite_self, List.nil_append, List.cons_append, Nat.reduceAdd, Nat.reduceLeDiff, Nat.zero_le, Nat.le_refl, and_self, and_true, true_and, not_true_eq_false, not_false_eq_true, reduceIte, c1, c4, c8, p1, p3, hch, c12, h0, hlt]
      exact E t u g I J P tb ub st hR (Nx_I (fun _ _ => rfl)) hB (by omega) hRI
end
