-- ===== in the body =====
/-- the latest line of the body and the stretches -/
def Bd (ω : Wd) (I : tI) (A : Nat → Nat → Int32) (st : Nat) : Prop := I 6 12 (ω.1 0) = A 7 26 ∧ (∃ b, A 7 26 = nI b ∧ b ≤ 1000) ∧ RT ω I A st
theorem topA_nI {A : Nat → Nat → Int32} (hp : WfP A) {gi : Nat} (h1 : 1 ≤ gi) (h2 : gi ≤ ngA A) (hm : 0 < mnA A gi) {b : Nat} (hb : A 7 26 = nI b) (hb2 : b ≤ 1000) : ∃ tp, topA A gi = nI tp ∧ 1 ≤ tp ∧ tp ≤ 1100 ∧ (b = 0 → tp ≤ 100) := by
  obtain ⟨⟨p0, f0, e0, -, -, hf, hf1, hf2, -, -⟩, hn, -, -⟩ := hp
  obtain ⟨w, hw, hw1, hw2⟩ := hn gi h1 h2 0 hm
  have hw' : A 69 (10 * gi) = nI w := hw
  unfold topA
  by_cases h7 : A 70 gi = 0
  · rw [if_pos h7]
    by_cases h0 : b = 0
    · subst h0
      rw [if_pos (by rw [hb]; rfl)]
      exact ⟨f0, hf, hf1, by omega, fun _ => hf2⟩
    · rw [if_neg (by rw [hb]; exact nIz h0 (by omega)), hb, hw', nI_add]
      exact ⟨b + w, rfl, by omega, by omega, fun q => absurd q h0⟩
  · rw [if_neg h7]
    exact ⟨w, hw', hw1, by omega, fun _ => hw2⟩
theorem last_nI {A : Nat → Nat → Int32} (hw : WfA A) (hp : WfP A) {gi : Nat} (h1 : 1 ≤ gi) (h2 : gi ≤ ngA A) (hm : 0 < mnA A gi) {b : Nat} (hb : A 7 26 = nI b) (hb2 : b ≤ 1000) : ∃ tp s, topA A gi = nI tp ∧ 1 ≤ tp ∧ tp ≤ 1100 ∧ (b = 0 → tp ≤ 100) ∧ lat A gi (topA A gi) (mnA A gi - 1) = nI (tp + s) ∧ s ≤ 900 := by
  obtain ⟨tp, h3, h4, h5, h6⟩ := topA_nI hp h1 h2 hm hb hb2
  have h10 := (hw.2.2.2.1 gi).2
  obtain ⟨s, h7, h8⟩ := lat_nI (a := tp) (hp.2.1 gi h1 h2) (mnA A gi - 1) (by omega)
  exact ⟨tp, s, h3, h4, h5, h6, by rw [h3]; exact h7, by omega⟩
theorem inBodyA_73 {A : Nat → Nat → Int32} {gi : Nat} {v : Int32} {j : Nat} (hj : j < 21) (h : A 73 j = 0) (hne : j ≠ gi) : inBodyA A gi v 73 j = 0 := by
  unfold inBodyA turnA
  split
  · exact h
  · split
    · show pAllA (upA (roomA (onA A gi) gi) 73 gi 1) gi _ _ _ 73 j = 0
      rw [pAllA_o (by decide) (by omega), upA_ap, if_neg (fun q => hne q.2)]
      unfold roomA
      split
      · exact beginA_73 _ hj
      · exact h
    · exact h
section
variable {sv : Nat → Value} {d t u : Nat} {Q : Option Value → jM → Prop} {g : jG} {I I' : tI} {J : tJ} {P : tP} {A B : Nat → Nat → Int32} {T : Nat → Int64} {ω : Wd} {tb ub st : Nat} {x y z : Int32}
theorem RT.kp {I' : tI} (h : RT ω I A st) (h1 : I' 6 15 (ω.1 0) = I 6 15 (ω.1 0)) (h2 : ∀ b, I' 2 9 b = I 2 9 b) (hn : ngA B = ngA A) : RT ω I' B st := ⟨h1.trans h.1, h.2.1, fun i hi => by rw [h2]; exact h.2.2 i (by rw [← hn]; exact hi)⟩
theorem RT.up {I' : tI} (h : RT ω I A st) (h1 : I' 6 15 (ω.1 0) = I 6 15 (ω.1 0) + 1) (h2 : ∀ b, I' 2 9 b = I 2 9 b) (hn : ngA B = ngA A) (hs : st + 1 < 1000000) : RT ω I' B (st + 1) := ⟨by rw [h1, h.1, nIs], hs, fun i hi => by
  obtain ⟨s', a1, a2⟩ := h.2.2 i (by rw [← hn]; exact hi)
  exact ⟨s', by rw [h2]; exact a1, by omega⟩⟩
/-- behind a beginning none is indicated any more -/
theorem RT.ri (h : RT ω I A st) (h1 : I' 6 15 (ω.1 0) = nI (st + 1)) (h2 : ∀ b, I' 2 9 b = I 2 9 b) (hn : ngA B = ngA A) (hs : st + 1 < 1000000) (h73 : ∀ i, i < ngA B → A 66 (i + 1) = 3 → B 73 (i + 1) = 0) (h66 : ∀ i, B 66 i = A 66 i) : RI ω I' B := by
  intro i hi h3
  obtain ⟨s', a1, a2⟩ := h.2.2 i (by rw [← hn]; exact hi)
  rw [h66] at h3
  rw [h1, h2, a1]
  constructor
  · intro q
    have := (nI_eq (by omega) (by omega)).mp q
    omega
  · intro q
    exact absurd (h73 i hi h3) q
theorem c_startInBody (hR : Rel sv ω t g I J P A T tb ub) {i : Nat} (hi : i < ngA A) (hin : inb A (i + 1)) (hm : 0 < mnA A (i + 1)) (h12 : I 6 12 (ω.1 0) = A 7 26) {b : Nat} (hb : A 7 26 = nI b) (hb2 : b ≤ 1000) :
    Ev sv (d + 2) (37, 0, [some (.ref (ω.1 0)), some (.ref (ω.2.1 i))], []) (tv t u g I J P) Q ↔ Q (some (.int (topA A (i + 1)))) (tv t u g I J P) := by
  have c1 := hR.1.1
  have c6 := hR.1.2.2.2.2.2.1
  obtain ⟨g1, g2, g3, g4, g5, g6, g7, g8, g9, g10, g11, g12⟩ := hR.2.2.1.2.1 i hi
  obtain ⟨k1, k2⟩ := g11 hm
  have hcs := fun (Q : Option Value → jM → Prop) (x y z : Int32) => c_start (Q := Q) (sv := sv) (d := d) (u := u) (x := x) (y := y) (z := z) hR
  have h12b : I 6 12 (ω.1 0) = nI b := h12.trans hb
  unfold topA
  by_cases h7 : A 70 (i + 1) = 0
  · have k3 : ¬ I 2 4 (ω.2.1 i) = 0 := fun q => (k2.mp q) h7
    rw [if_pos h7]
    by_cases h0 : b = 0
    · have hz : A 7 26 = 0 := by rw [hb, h0]; rfl
      have hl : ¬ (0 : Int32) < nI b := nI_nlt (a := 0) (by omega) (by omega)
      rw [if_pos hz]
      simp only [s_X4_startInBody_0, s_X4_startInBody_0n, s_X4_startInBody_0z, s_X4_startInBody_1, s_X4_startInBody_4, s_X4_startInBody_7, s_X4_startInBody_7n, s_X4_startInBody_7z, s_X4_startInBody_8, s_X4_startInBody_11, s_X4_startInBody_14, s_X4_startInBody_14n, s_X4_startInBody_14z, s_X4_startInBody_15, s_X4_startInBody_18, s_X4_startInBody_18n, s_X4_startInBody_18z, s_X4_startInBody_19, s_X4_startInBody_22, s_X4_startInBody_23, s_X4_startInBody_24, s_X4_startInBody_24n, s_X4_startInBody_24z, s_X4_startInBody_25, s_X4_startInBody_25n, s_X4_startInBody_25z, s_X4_startInBody_26, s_X4_startInBody_29, s_X4_startInBody_29n, s_X4_startInBody_29z, s_X4_startInBody_30, s_X4_startInBody_33, s_X4_startInBody_33n, s_X4_startInBody_33z, s_X4_startInBody_34, s_X4_startInBody_37, s_X4_startInBody_40, tl_some, tl_none, cv_int, cv_ref, cv_null, cv_long, cat_rf, jcv_nil, jcat_cons, jv_none, jv_int, jv_ref, jv_null, jw_rf, rf_some, rf_none, bz_0, bz_1, i1_0, i0_0, if_true, if_false, ite_self, List.nil_append, List.cons_append, Nat.reduceAdd, Nat.reduceLeDiff, Nat.zero_le, Nat.le_refl, and_self, and_true, true_and, not_true_eq_false, not_false_eq_true, reduceIte, g1, c1, k3, h12b, hl, hcs, g6, if_pos (c := A 66 (i + 1) = 2 ∨ A 66 (i + 1) = 3 ∨ A 66 (i + 1) = 4) hin]
    · have hz : ¬ A 7 26 = 0 := by rw [hb]; exact nIz h0 (by omega)
      have hl : (0 : Int32) < nI b := nI_lt (a := 0) (by omega) (by omega)
      rw [if_neg hz, hb]
      simp only [s_X4_startInBody_0, s_X4_startInBody_0n, s_X4_startInBody_0z, s_X4_startInBody_1, s_X4_startInBody_4, s_X4_startInBody_7, s_X4_startInBody_7n, s_X4_startInBody_7z, s_X4_startInBody_8, s_X4_startInBody_11, s_X4_startInBody_14, s_X4_startInBody_14n, s_X4_startInBody_14z, s_X4_startInBody_15, s_X4_startInBody_18, s_X4_startInBody_18n, s_X4_startInBody_18z, s_X4_startInBody_19, s_X4_startInBody_22, s_X4_startInBody_23, s_X4_startInBody_24, s_X4_startInBody_24n, s_X4_startInBody_24z, s_X4_startInBody_25, s_X4_startInBody_25n, s_X4_startInBody_25z, s_X4_startInBody_26, s_X4_startInBody_29, s_X4_startInBody_29n, s_X4_startInBody_29z, s_X4_startInBody_30, s_X4_startInBody_33, s_X4_startInBody_33n, s_X4_startInBody_33z, s_X4_startInBody_34, s_X4_startInBody_37, s_X4_startInBody_40, tl_some, tl_none, cv_int, cv_ref, cv_null, cv_long, cat_rf, jcv_nil, jcat_cons, jv_none, jv_int, jv_ref, jv_null, jw_rf, rf_some, rf_none, bz_0, bz_1, i1_0, i0_0, if_true, if_false, ite_self, List.nil_append, List.cons_append, Nat.reduceAdd, Nat.reduceLeDiff, Nat.zero_le, Nat.le_refl, and_self, and_true, true_and, not_true_eq_false, not_false_eq_true, reduceIte, g1, c1, k3, h12b, hl, k1]
  · have k3 : I 2 4 (ω.2.1 i) = 0 := k2.mpr h7
    rw [if_neg h7]
    simp only [s_X4_startInBody_0, s_X4_startInBody_0n, s_X4_startInBody_0z, s_X4_startInBody_1, s_X4_startInBody_4, s_X4_startInBody_7, s_X4_startInBody_7n, s_X4_startInBody_7z, s_X4_startInBody_8, s_X4_startInBody_11, s_X4_startInBody_14, s_X4_startInBody_14n, s_X4_startInBody_14z, s_X4_startInBody_15, s_X4_startInBody_18, s_X4_startInBody_18n, s_X4_startInBody_18z, s_X4_startInBody_19, s_X4_startInBody_22, s_X4_startInBody_23, s_X4_startInBody_24, s_X4_startInBody_24n, s_X4_startInBody_24z, s_X4_startInBody_25, s_X4_startInBody_25n, s_X4_startInBody_25z, s_X4_startInBody_26, s_X4_startInBody_29, s_X4_startInBody_29n, s_X4_startInBody_29z, s_X4_startInBody_30, s_X4_startInBody_33, s_X4_startInBody_33n, s_X4_startInBody_33z, s_X4_startInBody_34, s_X4_startInBody_37, s_X4_startInBody_40, tl_some, tl_none, cv_int, cv_ref, cv_null, cv_long, cat_rf, jcv_nil, jcat_cons, jv_none, jv_int, jv_ref, jv_null, jw_rf, rf_some, rf_none, bz_0, bz_1, i1_0, i0_0, if_true, if_false, ite_self, List.nil_append, List.cons_append, Nat.reduceAdd, Nat.reduceLeDiff, Nat.zero_le, Nat.le_refl, and_self, and_true, true_and, not_true_eq_false, not_false_eq_true, reduceIte, g1, c1, k3, hcs, k1]
/-- seen or not says nothing of the class's cells -/
theorem Rel.seen (hR : Rel sv ω t g I J P A T tb ub) {j : Nat} {v : Int32} : Rel sv ω t g I J P (upA A 73 j v) T tb ub := by
  refine hR.scal hR.1 (fun _ _ => rfl) (fun κ j h1 h2 => by rw [upA_ap, if_neg (fun q => h2 q.1)]) (fs_up (fs_rf A) rfl) rfl
/-- the latest line of the body is told, and the stretch -/
theorem Rel.fin (hR : Rel sv ω t g I J P A T tb ub) {G : Nat} {y z : Int32} : Rel sv ω t g (ups (ups I 6 12 (ω.1 0) y) 2 9 G z) J P (bodyA A) T tb ub := by
  obtain ⟨hC, hV, hG, hS, hP, hD, htg, hw, hl, hs⟩ := hR
  have o : ∀ κ, κ ≠ 2 → κ ≠ 6 → ups (ups I 6 12 (ω.1 0) y) 2 9 G z κ = I κ := fun κ h1 h2 => by rw [ups_o h1, ups_o h2]
  have oA : ∀ κ j, κ ≠ 7 → bodyA A κ j = A κ j := fun κ j h => if_neg (fun q => h q.1)
  exact ⟨hC, hV.congr (fun j => rfl) (fun j => rfl) (o 60 (by decide) (by decide)) (o 61 (by decide) (by decide)) rfl (gle_rf g), hG.congr (fun κ j h1 h2 => oA κ j (by omega)) rfl (fun n f h => h.congr rfl rfl (fun _ _ => rfl) (gle_rf g)) (fun k b hk => by rw [ups_ap, if_neg (fun q => hk q.2.1), ups_o (by decide)]) (o 62 (by decide) (by decide)) rfl (gle_rf g), hS.congr (fun κ j h => oA κ j (by omega)) rfl (fun n f h => h.congr rfl rfl (fun _ _ => rfl) (gle_rf g)) (o 5 (by decide) (by decide)) rfl (gle_rf g), hP.congr (fun j => rfl) rfl (o 1 (by decide) (by decide)) (o 3 (by decide) (by decide)) (o 63 (by decide) (by decide)), hD, htg, (bodyA_fr A).wf hw, hl, hs⟩
/-- from the place where it is known where it starts -/
theorem c_tell (hR : Rel sv ω t g I J P A T tb ub) (hp : WfP A) {i : Nat} (hi : i < ngA A) (hm : 0 < mnA A (i + 1)) (hT : RT ω I A st) (h3 : A 66 (i + 1) = 3 → RI ω I A) {b : Nat} (hla : lat A (i + 1) (topA A (i + 1)) (mnA A (i + 1) - 1) = nI b) (hb2 : b ≤ 1000) (hb : ln A + 10 ≤ 100000) {X : Int64} {l5 : Option Value}
    (K : ∀ (t' u' : Nat) (g' : jG) (I' : tI) (J' : tJ) (P' : tP) (tb' ub' : Nat), Rel sv ω t' g' I' J' P' (bodyA (tellA A (i + 1) X.toInt32)) T tb' ub' → Nx t u g I J P tb ub t' u' g' I' J' P' tb' ub' → Bd ω I' (bodyA (tellA A (i + 1) X.toInt32)) st → (RI ω I A → RI ω I' (bodyA (tellA A (i + 1) X.toInt32))) → Q none (tv t' u' g' I' J' P')) :
    Ev sv (d + 9) (39, 57, [some (.ref (ω.1 0)), some (.ref (ω.2.1 i)), some (.long X), none, some (.int (topA A (i + 1))), l5], []) (tv t u g I J P) Q := by
  obtain ⟨g1, g2, g3, g4, g5, g6, g7, g8, g9, g10, g11, g12⟩ := hR.2.2.1.2.1 i hi
  have c1 := hR.1.1
  have S : ∃ h5 : Int32, Ev sv (d + 9) (39, 57, [some (.ref (ω.1 0)), some (.ref (ω.2.1 i)), some (.long X), none, some (.int (topA A (i + 1))), l5], []) (tv t u g I J P) Q ↔ Ev sv (d + 8) (45, 0, [some (.ref (ω.1 0)), some (.int (topA A (i + 1))), some (.ref (ω.2.1 i)), some (.long (if hid A (i + 1) then 0 else X)), none, none], []) (tv t u g I J P) (fun r M1 => Ev sv (d + 8 + 1) (39, 99, [some (.ref (ω.1 0)), some (.ref (ω.2.1 i)), some (.long X), none, some (.int (topA A (i + 1))), some (.int h5)], r.toList ++ []) M1 Q) := by
    by_cases h72 : A 72 (i + 1) = 0
    · refine ⟨0, ?_⟩
      rw [if_neg (c := hid A (i + 1)) (fun q => q.2.1 h72)]
      simp only [s_X4_printInBody_57, s_X4_printInBody_57n, s_X4_printInBody_57z, s_X4_printInBody_58, s_X4_printInBody_61, s_X4_printInBody_64, s_X4_printInBody_64n, s_X4_printInBody_64z, s_X4_printInBody_65, s_X4_printInBody_68, s_X4_printInBody_68n, s_X4_printInBody_68z, s_X4_printInBody_69, s_X4_printInBody_72, s_X4_printInBody_75, s_X4_printInBody_76, s_X4_printInBody_79, s_X4_printInBody_80, s_X4_printInBody_82, s_X4_printInBody_82n, s_X4_printInBody_82z, s_X4_printInBody_83, s_X4_printInBody_85, s_X4_printInBody_85n, s_X4_printInBody_85z, s_X4_printInBody_86, s_X4_printInBody_88, s_X4_printInBody_91, s_X4_printInBody_92, s_X4_printInBody_95, s_X4_printInBody_96, tl_some, tl_none, cv_int, cv_ref, cv_null, cv_long, cat_rf, jcv_nil, jcat_cons, jv_none, jv_int, jv_ref, jv_null, jw_rf, rf_some, rf_none, bz_0, bz_1, i1_0, i0_0, if_true, if_false, ite_self, List.nil_append, List.cons_append, Nat.reduceAdd, Nat.reduceLeDiff, Nat.zero_le, Nat.le_refl, and_self, and_true, true_and, not_true_eq_false, not_false_eq_true, reduceIte, g1, g10, h72, c1]
    · have hd : A 66 (i + 1) = 3 := by
        by_cases h : A 66 (i + 1) = 3
        · exact h
        · exact absurd (hp.2.2.1 (i + 1) (by omega) (by omega) h) h72
      have hri := h3 hd i hi hd
      by_cases h73 : A 73 (i + 1) = 0
      · refine ⟨0, ?_⟩
        have hne : ¬ I 2 9 (ω.2.1 i) = I 6 15 (ω.1 0) := fun q => (hri.mp q) h73
        rw [if_neg (c := hid A (i + 1)) (fun q => q.2.2 h73)]
        simp only [s_X4_printInBody_57, s_X4_printInBody_57n, s_X4_printInBody_57z, s_X4_printInBody_58, s_X4_printInBody_61, s_X4_printInBody_64, s_X4_printInBody_64n, s_X4_printInBody_64z, s_X4_printInBody_65, s_X4_printInBody_68, s_X4_printInBody_68n, s_X4_printInBody_68z, s_X4_printInBody_69, s_X4_printInBody_72, s_X4_printInBody_75, s_X4_printInBody_76, s_X4_printInBody_79, s_X4_printInBody_80, s_X4_printInBody_82, s_X4_printInBody_82n, s_X4_printInBody_82z, s_X4_printInBody_83, s_X4_printInBody_85, s_X4_printInBody_85n, s_X4_printInBody_85z, s_X4_printInBody_86, s_X4_printInBody_88, s_X4_printInBody_91, s_X4_printInBody_92, s_X4_printInBody_95, s_X4_printInBody_96, tl_some, tl_none, cv_int, cv_ref, cv_null, cv_long, cat_rf, jcv_nil, jcat_cons, jv_none, jv_int, jv_ref, jv_null, jw_rf, rf_some, rf_none, bz_0, bz_1, i1_0, i0_0, if_true, if_false, ite_self, List.nil_append, List.cons_append, Nat.reduceAdd, Nat.reduceLeDiff, Nat.zero_le, Nat.le_refl, and_self, and_true, true_and, not_true_eq_false, not_false_eq_true, reduceIte, g1, g10, h72, c1, hne]
      · refine ⟨1, ?_⟩
        have heq : I 2 9 (ω.2.1 i) = I 6 15 (ω.1 0) := hri.mpr h73
        rw [if_pos (c := hid A (i + 1)) ⟨hd, h72, h73⟩]
        simp only [s_X4_printInBody_57, s_X4_printInBody_57n, s_X4_printInBody_57z, s_X4_printInBody_58, s_X4_printInBody_61, s_X4_printInBody_64, s_X4_printInBody_64n, s_X4_printInBody_64z, s_X4_printInBody_65, s_X4_printInBody_68, s_X4_printInBody_68n, s_X4_printInBody_68z, s_X4_printInBody_69, s_X4_printInBody_72, s_X4_printInBody_75, s_X4_printInBody_76, s_X4_printInBody_79, s_X4_printInBody_80, s_X4_printInBody_82, s_X4_printInBody_82n, s_X4_printInBody_82z, s_X4_printInBody_83, s_X4_printInBody_85, s_X4_printInBody_85n, s_X4_printInBody_85z, s_X4_printInBody_86, s_X4_printInBody_88, s_X4_printInBody_91, s_X4_printInBody_92, s_X4_printInBody_95, s_X4_printInBody_96, tl_some, tl_none, cv_int, cv_ref, cv_null, cv_long, cat_rf, jcv_nil, jcat_cons, jv_none, jv_int, jv_ref, jv_null, jw_rf, rf_some, rf_none, bz_0, bz_1, i1_0, i0_0, if_true, if_false, ite_self, List.nil_append, List.cons_append, Nat.reduceAdd, Nat.reduceLeDiff, Nat.zero_le, Nat.le_refl, and_self, and_true, true_and, not_true_eq_false, not_false_eq_true, reduceIte, g1, g10, h72, c1, heq]
  obtain ⟨h5, S⟩ := S
  refine S.mpr ?_
  have hR1 := hR.seen (j := i + 1) (v := 1)
  refine c_printFrom (d := d) hR1 hi hb (fun t' u' g' I' J' P' tb' ub' r1 r2 r3 => ?_)
  have eX : (if hid A (i + 1) then (0 : Int64) else X).toInt32 = if hid A (i + 1) then 0 else X.toInt32 := by
    by_cases h : hid A (i + 1)
    · rw [if_pos h, if_pos h]; rfl
    · rw [if_neg h, if_neg h]
  rw [eX] at r1
  have hgl := r2.1
  have c1' := (hgl _ _ c1).1
  have g1' := (hgl _ _ g1).1
  have r15 : ∀ y, ups I' 6 12 (ω.1 0) y 6 15 (ω.1 0) = I' 6 15 (ω.1 0) := fun y => rfl
  simp only [s_X4_printInBody_99, s_X4_printInBody_99n, s_X4_printInBody_99z, s_X4_printInBody_100, s_X4_printInBody_100n, s_X4_printInBody_100z, s_X4_printInBody_101, s_X4_printInBody_104, s_X4_printInBody_107, s_X4_printInBody_107n, s_X4_printInBody_107z, s_X4_printInBody_108, s_X4_printInBody_108n, s_X4_printInBody_108z, s_X4_printInBody_109, s_X4_printInBody_112, s_X4_printInBody_115, tl_some, tl_none, cv_int, cv_ref, cv_null, cv_long, cat_rf, jcv_nil, jcat_cons, jv_none, jv_int, jv_ref, jv_null, jw_rf, rf_some, rf_none, bz_0, bz_1, i1_0, i0_0, if_true, if_false, ite_self, List.nil_append, List.cons_append, Nat.reduceAdd, Nat.reduceLeDiff, Nat.zero_le, Nat.le_refl, and_self, and_true, true_and, not_true_eq_false, not_false_eq_true, reduceIte, c1', g1', r15]
  have hfin := r1.fin (G := ω.2.1 i) (y := I' 6 11 (ω.1 0)) (z := I' 6 15 (ω.1 0))
  have hfr : fr A (bodyA (tellA A (i + 1) X.toInt32)) := (tellA_fr A (i + 1) X.toInt32).tr (bodyA_fr _)
  have e26 : bodyA (tellA A (i + 1) X.toInt32) 7 26 = nI b := by
    show tellA A (i + 1) X.toInt32 7 25 = _
    obtain ⟨n, hn⟩ : ∃ n, mnA A (i + 1) = n + 1 := ⟨mnA A (i + 1) - 1, by omega⟩
    show pAllA (upA A 73 (i + 1) 1) (i + 1) _ _ (mnA A (i + 1)) 7 25 = _
    rw [hn] at hla ⊢
    rw [pAllA_25, lat_congr (B := upA A 73 (i + 1) 1) (A := A) (fun j => rfl)]
    exact hla
  have c11 := r1.1.2.2.2.2.2.2.2.2.2.2.1
  have hN : Nx t' u' g' I' J' P' tb' ub' t' u' g' (ups (ups I' 6 12 (ω.1 0) (I' 6 11 (ω.1 0))) 2 9 (ω.2.1 i) (I' 6 15 (ω.1 0))) J' P' tb' ub' := Nx_I (fun κ hκ => by rw [ups_o (by omega), ups_o (by omega)])
  have hinj := hR.2.2.1.2.2.1
  have e15 : ups (ups I' 6 12 (ω.1 0) (I' 6 11 (ω.1 0))) 2 9 (ω.2.1 i) (I' 6 15 (ω.1 0)) 6 15 (ω.1 0) = I 6 15 (ω.1 0) := r3.2.1
  have e9 : ∀ j, j < ngA A → ups (ups I' 6 12 (ω.1 0) (I' 6 11 (ω.1 0))) 2 9 (ω.2.1 i) (I' 6 15 (ω.1 0)) 2 9 (ω.2.1 j) = if j = i then I 6 15 (ω.1 0) else I 2 9 (ω.2.1 j) := by
    intro j hj
    rw [ups_ap]
    by_cases h : j = i
    · rw [if_pos ⟨rfl, rfl, by rw [h]⟩, if_pos h]
      exact r3.2.1
    · rw [if_neg (fun q => h (hinj j i hj hi q.2.2)), if_neg h]
      exact r3.2.2 _
  have e73 : ∀ j, bodyA (tellA A (i + 1) X.toInt32) 73 j = if j = i + 1 then 1 else A 73 j := by
    intro j
    show pAllA (upA A 73 (i + 1) 1) (i + 1) _ _ _ 73 j = _
    rw [pAllA_o (by decide) (by omega), upA_ap]
    by_cases h : j = i + 1
    · rw [if_pos ⟨rfl, h⟩, if_pos h]
    · rw [if_neg (fun q => h q.2), if_neg h]
  refine K t' u' g' _ J' P' tb' ub' hfin (r2.tr hN) ⟨?_, ⟨b, e26, hb2⟩, e15.trans hT.1, hT.2.1, fun j hj => ?_⟩ (fun hri j hj h66 => ?_)
  · show (if 6 = 6 ∧ 12 = 12 ∧ ω.1 0 = ω.1 0 then I' 6 11 (ω.1 0) else _) = _
    rw [if_pos ⟨rfl, rfl, rfl⟩, c11]
    rfl
  · rw [hfr.ng] at hj
    rw [e9 j hj]
    by_cases h : j = i
    · rw [if_pos h]
      exact ⟨st, hT.1, Nat.le_refl _⟩
    · rw [if_neg h]
      exact hT.2.2 j hj
  · rw [hfr.ng] at hj
    rw [hfr 66 _ rfl] at h66
    rw [e9 j hj, e15, e73]
    by_cases h : j = i
    · rw [if_pos h, if_pos (by omega)]
      exact ⟨fun _ => by decide, fun _ => rfl⟩
    · rw [if_neg h, if_neg (by omega)]
      exact hri j hj h66
end
