-- ===== sums are rolled =====
theorem neg0 (x : Int32) : 0 - (0 - x) = x := by
  rw [Int32.zero_sub, Int32.zero_sub, Int32.neg_neg]
theorem neg_lt_z {s : Nat} (h1 : 1 ≤ s) (h2 : s ≤ 1000) : 0 - nI s < 0 := by
  have h : ¬ (0 - nI s).toInt ≥ 0 := by
    rw [Int32.zero_sub, Int32.toInt_neg]
    have e : (nI s).toInt = s := nI_toInt (by omega)
    rw [e, Int.bmod_def]
    omega
  exact i32_lt.mpr (by have : (0 : Int32).toInt = 0 := rfl; omega)
/-- the sum that t is of -/
def srcA (A : Nat → Nat → Int32) (t : Nat) : Nat := (0 - A 75 t).toNatClampNeg
theorem src_eq {A : Nat → Nat → Int32} (hw : WfA A) {t : Nat} (h : isS A (0 - A 75 t)) : 1 ≤ srcA A t ∧ srcA A t ≤ nsA A ∧ A 75 t = 0 - nI (srcA A t) := by
  have h20 := hw.2.1
  have hr := nI_range h.1 (by rw [← h20.1]; exact h.2) (by omega)
  have ex := nIo (i32_neg h.1)
  refine ⟨hr.1, hr.2, ?_⟩
  unfold srcA
  rw [← ex, neg0]
theorem src_of {A : Nat → Nat → Int32} (hw : WfA A) {t s : Nat} (h1 : 1 ≤ s) (h2 : s ≤ nsA A) (h : A 75 t = 0 - nI s) : isS A (0 - A 75 t) ∧ srcA A t = s := by
  have h20 := hw.2.1
  have e : 0 - A 75 t = nI s := by rw [h, neg0]
  unfold srcA
  rw [e]
  refine ⟨⟨nI_lt (a := 0) (by omega) (by omega), ?_⟩, nI_clamp (by omega)⟩
  rw [h20.1]
  exact nI_nlt (by omega) (by omega)
/-- what t gets of the sums of the group gi up to k -/
def gotA (A : Nat → Nat → Int32) (T : Nat → Int64) (gi k t : Nat) : Int64 := if isS A (0 - A 75 t) ∧ srcA A t ≤ k ∧ A 74 (srcA A t) = nI gi then T (srcA A t) else 0
theorem rI_ap {A : Nat → Nat → Int32} {k : Nat} {U : Nat → Int64} (hk : ¬ A 75 k = 0 - nI k) : ∀ j t, rI A k U j t = if 1 ≤ t ∧ t ≤ j then U t + (if A 75 t = 0 - nI k then U k else 0) else U t
  | 0, t => by rw [if_neg (by omega)]; rfl
  | j + 1, t => by
    have e : rI A k U j k = U k := by
      rw [rI_ap hk j k, if_neg (c := A 75 k = 0 - nI k) hk, Int64.add_zero, ite_self]
    show upT (rI A k U j) (j + 1) (rI A k U j (j + 1) + (if A 75 (j + 1) = 0 - nI k then rI A k U j k else 0)) t = _
    rw [upT_ap, e]
    by_cases h : t = j + 1
    · rw [if_pos h, h, if_pos (c := 1 ≤ j + 1 ∧ j + 1 ≤ j + 1) (by omega), rI_ap hk j (j + 1), if_neg (c := 1 ≤ j + 1 ∧ j + 1 ≤ j) (by omega)]
    · rw [if_neg h, rI_ap hk j t]
      by_cases h2 : 1 ≤ t ∧ t ≤ j
      · rw [if_pos h2, if_pos (c := 1 ≤ t ∧ t ≤ j + 1) (by omega)]
      · rw [if_neg h2, if_neg (c := 1 ≤ t ∧ t ≤ j + 1) (by omega)]
theorem no_self {A : Nat → Nat → Int32} (hs : WfS A) {k : Nat} (h1 : 1 ≤ k) (h2 : k ≤ nsA A) : ¬ A 75 k = 0 - nI k := fun q => by
  have := hs.1.2 k k h1 h2 h1 h2 q
  exact absurd this (fun z => by have := i32_lt.mp z; omega)
theorem no_chain {A : Nat → Nat → Int32} (hw : WfA A) (hs : WfS A) {k gi : Nat} (h1 : 1 ≤ k) (h2 : k ≤ nsA A) (hk : A 74 k = nI gi) : ¬ (isS A (0 - A 75 k) ∧ A 74 (srcA A k) = nI gi) := fun q => by
  obtain ⟨a1, a2, a3⟩ := src_eq hw q.1
  have := hs.1.2 k (srcA A k) h1 h2 a1 a2 a3
  rw [hk, q.2] at this
  exact absurd this (fun z => by have := i32_lt.mp z; omega)
theorem rO_ap {A : Nat → Nat → Int32} {T : Nat → Int64} {gi : Nat} (hw : WfA A) (hs : WfS A) : ∀ k, k ≤ nsA A → ∀ t, 1 ≤ t → t ≤ nsA A → rO A gi (nsA A) T k t = T t + gotA A T gi k t
  | 0, _, t, h1, h2 => by
    show T t = _
    unfold gotA
    rw [if_neg (fun q => by have := (src_eq hw q.1).1; omega), Int64.add_zero]
  | k + 1, hk, t, h1, h2 => by
    have ih := rO_ap (T := T) (gi := gi) hw hs k (by omega)
    show (if A 74 (k + 1) = nI gi then rI A (k + 1) (rO A gi (nsA A) T k) (nsA A) else rO A gi (nsA A) T k) t = _
    by_cases h : A 74 (k + 1) = nI gi
    · rw [if_pos h, rI_ap (no_self hs (by omega) hk), if_pos ⟨h1, h2⟩, ih t h1 h2, ih (k + 1) (by omega) hk]
      have e0 : gotA A T gi k (k + 1) = 0 := if_neg (fun q => no_chain hw hs (by omega) hk h ⟨q.1, q.2.2⟩)
      rw [e0, Int64.add_zero]
      unfold gotA
      by_cases c : A 75 t = 0 - nI (k + 1)
      · obtain ⟨b1, b2⟩ := src_of hw (by omega) hk c
        rw [if_pos c, if_neg (fun q => by omega), Int64.add_zero, if_pos ⟨b1, by omega, by rw [b2]; exact h⟩, b2]
      · rw [if_neg c, Int64.add_zero]
        by_cases c2 : isS A (0 - A 75 t) ∧ srcA A t ≤ k ∧ A 74 (srcA A t) = nI gi
        · rw [if_pos c2, if_pos ⟨c2.1, by omega, c2.2.2⟩]
        · rw [if_neg c2, if_neg (fun q => by
            by_cases e : srcA A t = k + 1
            · exact c (by rw [← e]; exact (src_eq hw q.1).2.2)
            · exact c2 ⟨q.1, by omega, q.2.2⟩)]
    · rw [if_neg h, ih t h1 h2]
      unfold gotA
      by_cases c2 : isS A (0 - A 75 t) ∧ srcA A t ≤ k ∧ A 74 (srcA A t) = nI gi
      · rw [if_pos c2, if_pos ⟨c2.1, by omega, c2.2.2⟩]
      · rw [if_neg c2, if_neg (fun q => by
          by_cases e : srcA A t = k + 1
          · exact h (by rw [← e]; exact q.2.2)
          · exact c2 ⟨q.1, by omega, q.2.2⟩)]
/-- a sum of the level lv: of the level's foot -/
theorem lvl_foot {A : Nat → Nat → Int32} (hw : WfA A) (hs : WfS A) (hu : UqA A) {s : Nat} {lv : Int32} (h1 : 1 ≤ s) (h2 : s ≤ nsA A) : A 67 (A 74 s).toNatClampNeg = lv ↔ ¬ gF A 4 lv = 0 ∧ A 74 s = nI (gF A 4 lv) := by
  obtain ⟨a1, a2, a3⟩ := hw.2.2.2.2 s h1 h2
  have a4 := hs.1.1 s h1 h2
  have h20 := hw.1.2
  constructor
  · intro h
    have e : gF A 4 lv = (A 74 s).toNatClampNeg := fndN_one a2 ⟨a4, h⟩ _ a3 (fun j q1 q2 q3 => by
      have := hu (A 74 s).toNatClampNeg j a2 a3 (by omega) q2 (by rw [a4]; decide) (by rw [a4, q3.1]) (by rw [h, q3.2])
      omega)
    rw [e]
    exact ⟨by omega, a1⟩
  · intro h
    have hle := gF_le A 4 lv
    rw [h.2, nI_clamp (by omega)]
    exact (gF_hit h.1).2
/-- the class's way: sum by sum -/
def crT (A : Nat → Nat → Int32) (lv : Nat) (T : Nat → Int64) : Nat → Nat → Int64
  | 0 => T
  | k + 1 => if isS A (0 - A 75 (k + 1)) ∧ A 67 (A 74 (srcA A (k + 1))).toNatClampNeg = nI lv then upT (crT A lv T k) (k + 1) (crT A lv T k (k + 1) + crT A lv T k (srcA A (k + 1))) else crT A lv T k
theorem crT_ap {A : Nat → Nat → Int32} {T : Nat → Int64} {lv : Nat} (hw : WfA A) (hs : WfS A) (hu : UqA A) : ∀ k, k ≤ nsA A → ∀ t, 1 ≤ t → t ≤ nsA A → crT A lv T k t = if t ≤ k ∧ isS A (0 - A 75 t) ∧ A 67 (A 74 (srcA A t)).toNatClampNeg = nI lv then T t + T (srcA A t) else T t
  | 0, _, t, h1, h2 => by
    show T t = _
    rw [if_neg (fun q => by omega)]
  | k + 1, hk, t, h1, h2 => by
    have ih := crT_ap (T := T) (lv := lv) hw hs hu k (by omega)
    show (if isS A (0 - A 75 (k + 1)) ∧ A 67 (A 74 (srcA A (k + 1))).toNatClampNeg = nI lv then upT (crT A lv T k) (k + 1) (crT A lv T k (k + 1) + crT A lv T k (srcA A (k + 1))) else crT A lv T k) t = _
    by_cases c : isS A (0 - A 75 (k + 1)) ∧ A 67 (A 74 (srcA A (k + 1))).toNatClampNeg = nI lv
    · obtain ⟨a1, a2, a3⟩ := src_eq hw c.1
      rw [if_pos c, upT_ap]
      by_cases h : t = k + 1
      · rw [if_pos h, h, ih (k + 1) (by omega) hk, ih _ a1 a2, if_neg (fun q => by omega), if_neg (fun q => by
          obtain ⟨-, q1, q2⟩ := q
          have f1 := (lvl_foot hw hs hu a1 a2).mp c.2
          obtain ⟨b1, b2, b3⟩ := src_eq hw q1
          have f2 := (lvl_foot hw hs hu b1 b2).mp q2
          exact no_chain hw hs a1 a2 f1.2 ⟨q1, f2.2⟩), if_pos ⟨by omega, c⟩]
      · rw [if_neg h, ih t h1 h2]
        by_cases c2 : t ≤ k ∧ isS A (0 - A 75 t) ∧ A 67 (A 74 (srcA A t)).toNatClampNeg = nI lv
        · rw [if_pos c2, if_pos ⟨by omega, c2.2⟩]
        · rw [if_neg c2, if_neg (fun q => c2 ⟨by omega, q.2⟩)]
    · rw [if_neg c, ih t h1 h2]
      by_cases c2 : t ≤ k ∧ isS A (0 - A 75 t) ∧ A 67 (A 74 (srcA A t)).toNatClampNeg = nI lv
      · rw [if_pos c2, if_pos ⟨by omega, c2.2⟩]
      · rw [if_neg c2, if_neg (fun q => by
          by_cases h : t = k + 1
          · rw [h] at q; exact c q.2
          · exact c2 ⟨by omega, q.2⟩)]
theorem roll_same {A : Nat → Nat → Int32} {T : Nat → Int64} {lv : Nat} (hw : WfA A) (hs : WfS A) (hu : UqA A) {t : Nat} (h1 : 1 ≤ t) (h2 : t ≤ nsA A) : rollT A T lv t = crT A lv T (nsA A) t := by
  rw [crT_ap hw hs hu _ (Nat.le_refl _) t h1 h2]
  unfold rollT
  by_cases h0 : gF A 4 (nI lv) = 0
  · rw [if_pos h0, if_neg (fun q => by
      obtain ⟨-, q1, q2⟩ := q
      obtain ⟨b1, b2, b3⟩ := src_eq hw q1
      exact ((lvl_foot hw hs hu b1 b2).mp q2).1 h0)]
  · rw [if_neg h0, rO_ap hw hs _ (Nat.le_refl _) t h1 h2]
    unfold gotA
    by_cases c : isS A (0 - A 75 t) ∧ A 67 (A 74 (srcA A t)).toNatClampNeg = nI lv
    · obtain ⟨b1, b2, b3⟩ := src_eq hw c.1
      rw [if_pos ⟨c.1, b2, ((lvl_foot hw hs hu b1 b2).mp c.2).2⟩, if_pos ⟨h2, c⟩]
    · rw [if_neg (fun q => by
        obtain ⟨b1, b2, b3⟩ := src_eq hw q.1
        exact c ⟨q.1, (lvl_foot hw hs hu b1 b2).mpr ⟨h0, q.2.2⟩⟩), Int64.add_zero, if_neg (fun q => c q.2)]
section
variable {sv : Nat → Value} {d t u : Nat} {Q : Option Value → jM → Prop} {g : jG} {I I' : tI} {J : tJ} {P : tP} {A B : Nat → Nat → Int32} {T T' : Nat → Int64} {ω : Wd} {tb ub st : Nat} {x y z : Int32}
theorem c_roll_loop {lv : Nat} (hw : WfA A) : ∀ n k, k + n = nsA A → ∀ (J : tJ) (l3 l4 : Option Value), Rel sv ω t g I J P A (crT A lv T k) tb ub →
    (∀ J' : tJ, Rel sv ω t g I J' P A (crT A lv T (nsA A)) tb ub → (∀ κ, κ ≠ 5 → J' κ = J κ) → Q none (tv t u g I J' P)) →
    Ev sv (d + 4) (50, 2, [some (.ref (ω.1 0)), some (.int (nI lv)), some (.int (nI k)), l3, l4], []) (tv t u g I J P) Q := by
  intro n
  induction n with
  | zero =>
    intro k hk J l3 l4 hR K
    have c1 := hR.1.1
    have c2 := hR.1.2.2.1
    have hLg := hR.2.2.2.1.1
    have hLg1 := hLg.1
    have hsz : I 1 2 (ω.1 2) = nI (nsA A) := hLg.2.2.1
    have h20 := hw.2.1.2
    have e : k = nsA A := by omega
    have h1 : ¬ nI k < nI (nsA A) := nI_nlt (by omega) (by omega)
    refine s_X4_rollSums_2.mpr ?_
    simp only [s_X4_rollSums_3, s_X4_rollSums_3n, s_X4_rollSums_3z, s_X4_rollSums_4, s_X4_rollSums_7, s_X4_rollSums_10, s_X4_rollSums_81, tl_some, tl_none, cv_int, cv_ref, cv_null, cv_long, cat_rf, jcv_nil, jcat_cons, jv_none, jv_int, jv_ref, jv_null, jw_rf, rf_some, rf_none, bz_0, bz_1, i1_0, i0_0, if_true, if_false, ite_self, List.nil_append, List.cons_append, Nat.reduceAdd, Nat.reduceLeDiff, Nat.zero_le, Nat.le_refl, and_self, and_true, true_and, not_true_eq_false, not_false_eq_true, reduceIte, c1, c2, hLg1, l_size hLg1, hsz, h1]
    rw [e] at hR
    exact K J hR (fun _ _ => rfl)
  | succ n ih =>
    intro k hk J l3 l4 hR K
    have c1 := hR.1.1
    have c2 := hR.1.2.2.1
    have hLg := hR.2.2.2.1.1
    have hLg1 := hLg.1
    have hsz : I 1 2 (ω.1 2) = nI (nsA A) := hLg.2.2.1
    have h20 := hw.2.1.2
    have h1 : nI k < nI (nsA A) := nI_lt (by omega) (by omega)
    have hg := fun (Q : Option Value → jM → Prop) => l_get (sv := sv) (d := d + 1) (t := t) (u := u) (Q := Q) (J := J) hLg (i := k) (by omega)
    obtain ⟨g1, g2, g3, g4, g5, g6⟩ := hR.2.2.2.1.2.1 k (by omega)
    have hs := nIs k
    have hsn := fun (Q : Option Value → jM → Prop) (x : Int32) => c_sumNumbered (Q := Q) (sv := sv) (d := d) (u := u) (x := x) hR
    have hneg : -A 75 (k + 1) = 0 - A 75 (k + 1) := (Int32.zero_sub _).symm
    refine s_X4_rollSums_2.mpr ?_
    have ec : crT A lv T (k + 1) = if isS A (0 - A 75 (k + 1)) ∧ A 67 (A 74 (srcA A (k + 1))).toNatClampNeg = nI lv then upT (crT A lv T k) (k + 1) (crT A lv T k (k + 1) + crT A lv T k (srcA A (k + 1))) else crT A lv T k := rfl
    by_cases m0 : A 75 (k + 1) < 0
    · by_cases m1 : isS A (0 - A 75 (k + 1))
      · obtain ⟨a1, a2, a3⟩ := src_eq hw m1
        obtain ⟨s1, s2, s3, s4, s5, s6⟩ := hR.2.2.2.1.2.1 (srcA A (k + 1) - 1) (by omega)
        have e1 : srcA A (k + 1) - 1 + 1 = srcA A (k + 1) := by omega
        rw [e1] at s2 s3 s6
        have e2 : (0 - A 75 (k + 1)).toNatClampNeg = srcA A (k + 1) := rfl
        by_cases m2 : A 67 (A 74 (srcA A (k + 1))).toNatClampNeg = nI lv
        · simp only [s_X4_rollSums_3, s_X4_rollSums_3n, s_X4_rollSums_3z, s_X4_rollSums_4, s_X4_rollSums_7, s_X4_rollSums_10, s_X4_rollSums_13, s_X4_rollSums_13n, s_X4_rollSums_13z, s_X4_rollSums_14, s_X4_rollSums_17, s_X4_rollSums_18, s_X4_rollSums_21, s_X4_rollSums_21z, s_X4_rollSums_24, s_X4_rollSums_24n, s_X4_rollSums_24z, s_X4_rollSums_25, s_X4_rollSums_25n, s_X4_rollSums_25z, s_X4_rollSums_26, s_X4_rollSums_29, s_X4_rollSums_32, s_X4_rollSums_32n, s_X4_rollSums_32z, s_X4_rollSums_33, s_X4_rollSums_33n, s_X4_rollSums_33z, s_X4_rollSums_34, s_X4_rollSums_37, s_X4_rollSums_38, s_X4_rollSums_41, s_X4_rollSums_44, s_X4_rollSums_45, s_X4_rollSums_45n, s_X4_rollSums_45z, s_X4_rollSums_47, s_X4_rollSums_47n, s_X4_rollSums_47z, s_X4_rollSums_49n, s_X4_rollSums_49, s_X4_rollSums_49z, s_X4_rollSums_52, s_X4_rollSums_52n, s_X4_rollSums_52z, s_X4_rollSums_54, s_X4_rollSums_57, s_X4_rollSums_58, s_X4_rollSums_61, s_X4_rollSums_61n, s_X4_rollSums_61z, s_X4_rollSums_62, s_X4_rollSums_63, s_X4_rollSums_66, s_X4_rollSums_66n, s_X4_rollSums_66z, s_X4_rollSums_68, s_X4_rollSums_71, s_X4_rollSums_72, s_X4_rollSums_75, s_X4_rollSums_78, tl_some, tl_none, cv_int, cv_ref, cv_null, cv_long, cat_rf, jcv_nil, jcat_cons, jv_none, jv_int, jv_ref, jv_null, jw_rf, rf_some, rf_none, bz_0, bz_1, i1_0, i0_0, if_true, if_false, ite_self, List.nil_append, List.cons_append, Nat.reduceAdd, Nat.reduceLeDiff, Nat.zero_le, Nat.le_refl, and_self, and_true, true_and, not_true_eq_false, not_false_eq_true, reduceIte, c1, c2, hLg1, l_size hLg1, hsz, h1, hg, g1, g4, g6, m0, hneg, hsn, if_pos (c := isS A (0 - A 75 (k + 1))) m1, e2, s1, s3, s6, m2, hs]
          refine ih (k + 1) (by omega) _ _ _ ?_ (fun J' r1 r2 => K J' r1 (fun κ hκ => (r2 κ hκ).trans (ups_o hκ)))
          rw [ec, if_pos ⟨m1, m2⟩]
          exact hR.tot (by omega)
        · simp only [s_X4_rollSums_3, s_X4_rollSums_3n, s_X4_rollSums_3z, s_X4_rollSums_4, s_X4_rollSums_7, s_X4_rollSums_10, s_X4_rollSums_13, s_X4_rollSums_13n, s_X4_rollSums_13z, s_X4_rollSums_14, s_X4_rollSums_17, s_X4_rollSums_18, s_X4_rollSums_21, s_X4_rollSums_21z, s_X4_rollSums_24, s_X4_rollSums_24n, s_X4_rollSums_24z, s_X4_rollSums_25, s_X4_rollSums_25n, s_X4_rollSums_25z, s_X4_rollSums_26, s_X4_rollSums_29, s_X4_rollSums_32, s_X4_rollSums_32n, s_X4_rollSums_32z, s_X4_rollSums_33, s_X4_rollSums_33n, s_X4_rollSums_33z, s_X4_rollSums_34, s_X4_rollSums_37, s_X4_rollSums_38, s_X4_rollSums_41, s_X4_rollSums_44, s_X4_rollSums_45, s_X4_rollSums_45n, s_X4_rollSums_45z, s_X4_rollSums_47, s_X4_rollSums_47n, s_X4_rollSums_47z, s_X4_rollSums_49n, s_X4_rollSums_49, s_X4_rollSums_49z, s_X4_rollSums_52, s_X4_rollSums_52n, s_X4_rollSums_52z, s_X4_rollSums_54, s_X4_rollSums_57, s_X4_rollSums_58, s_X4_rollSums_61, s_X4_rollSums_61n, s_X4_rollSums_61z, s_X4_rollSums_62, s_X4_rollSums_63, s_X4_rollSums_66, s_X4_rollSums_66n, s_X4_rollSums_66z, s_X4_rollSums_68, s_X4_rollSums_71, s_X4_rollSums_72, s_X4_rollSums_75, s_X4_rollSums_78, tl_some, tl_none, cv_int, cv_ref, cv_null, cv_long, cat_rf, jcv_nil, jcat_cons, jv_none, jv_int, jv_ref, jv_null, jw_rf, rf_some, rf_none, bz_0, bz_1, i1_0, i0_0, if_true, if_false, ite_self, List.nil_append, List.cons_append, Nat.reduceAdd, Nat.reduceLeDiff, Nat.zero_le, Nat.le_refl, and_self, and_true, true_and, not_true_eq_false, not_false_eq_true, reduceIte, c1, c2, hLg1, l_size hLg1, hsz, h1, hg, g1, g4, m0, hneg, hsn, if_pos (c := isS A (0 - A 75 (k + 1))) m1, e2, s1, s3, m2, hs]
          refine ih (k + 1) (by omega) _ _ _ ?_ K
          rw [ec, if_neg (fun q => m2 q.2)]
          exact hR
      · simp only [s_X4_rollSums_3, s_X4_rollSums_3n, s_X4_rollSums_3z, s_X4_rollSums_4, s_X4_rollSums_7, s_X4_rollSums_10, s_X4_rollSums_13, s_X4_rollSums_13n, s_X4_rollSums_13z, s_X4_rollSums_14, s_X4_rollSums_17, s_X4_rollSums_18, s_X4_rollSums_21, s_X4_rollSums_21z, s_X4_rollSums_24, s_X4_rollSums_24n, s_X4_rollSums_24z, s_X4_rollSums_25, s_X4_rollSums_25n, s_X4_rollSums_25z, s_X4_rollSums_26, s_X4_rollSums_29, s_X4_rollSums_32, s_X4_rollSums_32n, s_X4_rollSums_32z, s_X4_rollSums_33, s_X4_rollSums_33n, s_X4_rollSums_33z, s_X4_rollSums_34, s_X4_rollSums_37, s_X4_rollSums_38, s_X4_rollSums_41, s_X4_rollSums_44, s_X4_rollSums_45, s_X4_rollSums_45n, s_X4_rollSums_45z, s_X4_rollSums_47, s_X4_rollSums_47n, s_X4_rollSums_47z, s_X4_rollSums_49n, s_X4_rollSums_49, s_X4_rollSums_49z, s_X4_rollSums_52, s_X4_rollSums_52n, s_X4_rollSums_52z, s_X4_rollSums_54, s_X4_rollSums_57, s_X4_rollSums_58, s_X4_rollSums_61, s_X4_rollSums_61n, s_X4_rollSums_61z, s_X4_rollSums_62, s_X4_rollSums_63, s_X4_rollSums_66, s_X4_rollSums_66n, s_X4_rollSums_66z, s_X4_rollSums_68, s_X4_rollSums_71, s_X4_rollSums_72, s_X4_rollSums_75, s_X4_rollSums_78, tl_some, tl_none, cv_int, cv_ref, cv_null, cv_long, cat_rf, jcv_nil, jcat_cons, jv_none, jv_int, jv_ref, jv_null, jw_rf, rf_some, rf_none, bz_0, bz_1, i1_0, i0_0, if_true, if_false, ite_self, List.nil_append, List.cons_append, Nat.reduceAdd, Nat.reduceLeDiff, Nat.zero_le, Nat.le_refl, and_self, and_true, true_and, not_true_eq_false, not_false_eq_true, reduceIte, c1, c2, hLg1, l_size hLg1, hsz, h1, hg, g1, g4, m0, hneg, hsn, if_neg (c := isS A (0 - A 75 (k + 1))) m1, hs]
        refine ih (k + 1) (by omega) _ _ _ ?_ K
        rw [ec, if_neg (fun q => m1 q.1)]
        exact hR
    · simp only [s_X4_rollSums_3, s_X4_rollSums_3n, s_X4_rollSums_3z, s_X4_rollSums_4, s_X4_rollSums_7, s_X4_rollSums_10, s_X4_rollSums_13, s_X4_rollSums_13n, s_X4_rollSums_13z, s_X4_rollSums_14, s_X4_rollSums_17, s_X4_rollSums_18, s_X4_rollSums_21, s_X4_rollSums_21z, s_X4_rollSums_24, s_X4_rollSums_24n, s_X4_rollSums_24z, s_X4_rollSums_25, s_X4_rollSums_25n, s_X4_rollSums_25z, s_X4_rollSums_26, s_X4_rollSums_29, s_X4_rollSums_32, s_X4_rollSums_32n, s_X4_rollSums_32z, s_X4_rollSums_33, s_X4_rollSums_33n, s_X4_rollSums_33z, s_X4_rollSums_34, s_X4_rollSums_37, s_X4_rollSums_38, s_X4_rollSums_41, s_X4_rollSums_44, s_X4_rollSums_45, s_X4_rollSums_45n, s_X4_rollSums_45z, s_X4_rollSums_47, s_X4_rollSums_47n, s_X4_rollSums_47z, s_X4_rollSums_49n, s_X4_rollSums_49, s_X4_rollSums_49z, s_X4_rollSums_52, s_X4_rollSums_52n, s_X4_rollSums_52z, s_X4_rollSums_54, s_X4_rollSums_57, s_X4_rollSums_58, s_X4_rollSums_61, s_X4_rollSums_61n, s_X4_rollSums_61z, s_X4_rollSums_62, s_X4_rollSums_63, s_X4_rollSums_66, s_X4_rollSums_66n, s_X4_rollSums_66z, s_X4_rollSums_68, s_X4_rollSums_71, s_X4_rollSums_72, s_X4_rollSums_75, s_X4_rollSums_78, tl_some, tl_none, cv_int, cv_ref, cv_null, cv_long, cat_rf, jcv_nil, jcat_cons, jv_none, jv_int, jv_ref, jv_null, jw_rf, rf_some, rf_none, bz_0, bz_1, i1_0, i0_0, if_true, if_false, ite_self, List.nil_append, List.cons_append, Nat.reduceAdd, Nat.reduceLeDiff, Nat.zero_le, Nat.le_refl, and_self, and_true, true_and, not_true_eq_false, not_false_eq_true, reduceIte, c1, c2, hLg1, l_size hLg1, hsz, h1, hg, g1, g4, m0, hs]
      refine ih (k + 1) (by omega) _ _ _ ?_ K
      rw [ec, if_neg (fun q => m0 ?_)]
      · exact hR
      · obtain ⟨a1, a2, a3⟩ := src_eq hw q.1
        rw [a3]
        exact neg_lt_z a1 (by omega)
theorem c_roll {lv : Nat} (hs : WfS A) (hu : UqA A) (hR : Rel sv ω t g I J P A T tb ub) (K : ∀ J' : tJ, Rel sv ω t g I J' P A (rollT A T lv) tb ub → (∀ κ, κ ≠ 5 → J' κ = J κ) → Q none (tv t u g I J' P)) :
    Ev sv (d + 4) (50, 0, [some (.ref (ω.1 0)), some (.int (nI lv)), none, none, none], []) (tv t u g I J P) Q := by
  have hw := hR.2.2.2.2.2.2.2.1
  simp only [s_X4_rollSums_0, s_X4_rollSums_1, tl_some, tl_none, cv_int, cv_ref, cv_null, cv_long, cat_rf, jcv_nil, jcat_cons, jv_none, jv_int, jv_ref, jv_null, jw_rf, rf_some, rf_none, bz_0, bz_1, i1_0, i0_0, if_true, if_false, ite_self, List.nil_append, List.cons_append, Nat.reduceAdd, Nat.reduceLeDiff, Nat.zero_le, Nat.le_refl, and_self, and_true, true_and, not_true_eq_false, not_false_eq_true, reduceIte]
  exact c_roll_loop hw (nsA A) 0 (by omega) J none none hR (fun J' r1 r2 => K J' (r1.tcongr (fun s h1 h2 => roll_same hw hs hu h1 h2)) r2)
end
