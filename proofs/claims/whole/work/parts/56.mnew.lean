-- ===== new ReportWriterModel (laid by wip/gen/gen56.py) =====
def mI (I : tI) (m : Nat) : tI := upc (upc (upc (upc (upc (upc (upc (upc (upc (upc (upc (upc (upc (upc (upc I 64 (m + 1) (fun _ => 0)) 65 (m + 2) (fun _ => 0)) 66 (m + 3) (fun _ => 0)) 67 (m + 4) (fun _ => 0)) 68 (m + 5) (fun _ => 0)) 69 (m + 6) (fun _ => 0)) 70 (m + 7) (fun _ => 0)) 71 (m + 8) (fun _ => 0)) 72 (m + 9) (fun _ => 0)) 73 (m + 10) (fun _ => 0)) 74 (m + 11) (fun _ => 0)) 75 (m + 12) (fun _ => 0)) 76 (m + 13) (fun _ => 0)) 77 (m + 14) (fun _ => 0)) 78 (m + 15) (fun _ => 0)
def mJ (J : tJ) (m : Nat) : tJ := upc (upc (upc (upc (upc (upc (upc (upc (upc (upc (upc (upc (upc (upc (upc J 64 (m + 1) (fun _ => 0)) 65 (m + 2) (fun _ => 0)) 66 (m + 3) (fun _ => 0)) 67 (m + 4) (fun _ => 0)) 68 (m + 5) (fun _ => 0)) 69 (m + 6) (fun _ => 0)) 70 (m + 7) (fun _ => 0)) 71 (m + 8) (fun _ => 0)) 72 (m + 9) (fun _ => 0)) 73 (m + 10) (fun _ => 0)) 74 (m + 11) (fun _ => 0)) 75 (m + 12) (fun _ => 0)) 76 (m + 13) (fun _ => 0)) 77 (m + 14) (fun _ => 0)) 78 (m + 15) (fun _ => 0)
def mP (P : tP) (m : Nat) : tP := ups (upc (ups (upc (ups (upc (ups (upc (ups (upc (ups (upc (ups (upc (ups (upc (ups (upc (ups (upc (ups (upc (ups (upc (ups (upc (ups (upc (ups (upc P 64 (m + 1) (fun _ => none)) 7 7 m (some (m + 1))) 65 (m + 2) (fun _ => none)) 7 8 m (some (m + 2))) 66 (m + 3) (fun _ => none)) 7 9 m (some (m + 3))) 67 (m + 4) (fun _ => none)) 7 10 m (some (m + 4))) 68 (m + 5) (fun _ => none)) 7 11 m (some (m + 5))) 69 (m + 6) (fun _ => none)) 7 12 m (some (m + 6))) 70 (m + 7) (fun _ => none)) 7 13 m (some (m + 7))) 71 (m + 8) (fun _ => none)) 7 14 m (some (m + 8))) 72 (m + 9) (fun _ => none)) 7 15 m (some (m + 9))) 73 (m + 10) (fun _ => none)) 7 16 m (some (m + 10))) 74 (m + 11) (fun _ => none)) 7 17 m (some (m + 11))) 75 (m + 12) (fun _ => none)) 7 18 m (some (m + 12))) 76 (m + 13) (fun _ => none)) 7 19 m (some (m + 13))) 77 (m + 14) (fun _ => none)) 7 20 m (some (m + 14))) 78 (m + 15) (fun _ => none)) 7 27 m (some (m + 15))
def mG (g : jG) (m : Nat) : jG := jgset (jgset (jgset (jgset (jgset (jgset (jgset (jgset (jgset (jgset (jgset (jgset (jgset (jgset (jgset g (m + 1) (64, 6)) (m + 2) (65, 6)) (m + 3) (66, 21)) (m + 4) (67, 21)) (m + 5) (68, 21)) (m + 6) (69, 210)) (m + 7) (70, 21)) (m + 8) (71, 21)) (m + 9) (72, 21)) (m + 10) (73, 21)) (m + 11) (74, 21)) (m + 12) (75, 21)) (m + 13) (76, 21)) (m + 14) (77, 21)) (m + 15) (78, 500000)
def mU (u : Nat) : Nat := u + 6 + 6 + 21 + 21 + 21 + 210 + 21 + 21 + 21 + 21 + 21 + 21 + 21 + 21 + 500000
theorem mU_eq (u : Nat) : mU u = u + 500453 := by unfold mU; omega
section
variable {sv : Nat → Value} {d t u m : Nat} {Q : Option Value → jM → Prop} {g : jG} {I : tI} {J : tJ} {P : tP} {x y z : Int32}
theorem m_ctor2 (h7 : jt g m = some 7) (h71 : I 7 1 m = pgH x) : Ev sv (d + 1) (52, 137, [some (.ref m), some (.int x), some (.int y), some (.int z)], []) (tv t u g I J P) Q ↔ Q none (tv t u g (ups (ups I 7 2 m (fsH x y)) 7 3 m (ftH x y z)) J P) := by
  have k2 := fun (Q : Option Value → jM → Prop) (M : jM) => m_heldD (sv := sv) (d := d) (Q := Q) (M := M) (x := y) (lo := 2) (hi := pgH x - 2)
  have k3 := fun (Q : Option Value → jM → Prop) (M : jM) => m_heldD (sv := sv) (d := d) (Q := Q) (M := M) (x := z) (lo := fsH x y) (hi := pgH x - 1)
  have e2 : hD y 2 (pgH x - 2) = fsH x y := rfl
  have e3 : hD z (fsH x y) (pgH x - 1) = ftH x y z := rfl
  have r1 : ups I 7 2 m (fsH x y) 7 2 m = fsH x y := if_pos ⟨rfl, rfl, rfl⟩
  have r0 : ups I 7 2 m (fsH x y) 7 1 m = pgH x := by rw [ups_ap, if_neg (fun q => absurd q.2.1 (by decide))]; exact h71
  simp only [s_X5_init_137, s_X5_init_137n, s_X5_init_137z, s_X5_init_138, s_X5_init_139, s_X5_init_140, s_X5_init_140n, s_X5_init_140z, s_X5_init_141, s_X5_init_144, s_X5_init_145, s_X5_init_146, s_X5_init_149, s_X5_init_152, s_X5_init_152n, s_X5_init_152z, s_X5_init_153, s_X5_init_154, s_X5_init_154n, s_X5_init_154z, s_X5_init_155, s_X5_init_158, s_X5_init_158n, s_X5_init_158z, s_X5_init_159, s_X5_init_162, s_X5_init_163, s_X5_init_164, s_X5_init_167, s_X5_init_170, tl_some, tl_none, cv_int, cv_ref, cv_null, cv_long, cat_rf, jcv_nil, jcat_cons, jv_none, jv_int, jv_ref, jv_null, jw_rf, rf_some, rf_none, bz_0, bz_1, i1_0, i0_0, if_true, if_false, ite_self, List.nil_append, List.cons_append, Nat.reduceAdd, Nat.reduceLeDiff, Nat.zero_le, Nat.le_refl, and_self, and_true, true_and, not_true_eq_false, not_false_eq_true, reduceIte, h7, h71, k2, k3, e2, e3, r1, r0]
theorem m_ctor (h7 : jt g m = some 7) : Ev sv (d + 1) (52, 0, [some (.ref m), some (.int x), some (.int y), some (.int z)], []) (tv (m + 1) u g I J P) Q ↔ Q none (tv (m + 16) (mU u) (mG g m) (ups (ups (ups (mI I m) 7 1 m (pgH x)) 7 2 m (fsH x y)) 7 3 m (ftH x y z)) (mJ J m) (mP P m)) := by
  have st : ∀ (g : jG) (b : Nat) (q : Nat × Nat), b ≠ m → jt g m = some 7 → jt (jgset g b q) m = some 7 := fun g b q hb h => by rw [jt_set, if_neg (fun e => hb e.symm)]; exact h
  have g1 := st _ (m + 1) (64, 6) (by omega) h7
  have g2 := st _ (m + 1 + 1) (65, 6) (by omega) g1
  have g3 := st _ (m + 1 + 1 + 1) (66, 21) (by omega) g2
  have g4 := st _ (m + 1 + 1 + 1 + 1) (67, 21) (by omega) g3
  have g5 := st _ (m + 1 + 1 + 1 + 1 + 1) (68, 21) (by omega) g4
  have g6 := st _ (m + 1 + 1 + 1 + 1 + 1 + 1) (69, 210) (by omega) g5
  have g7 := st _ (m + 1 + 1 + 1 + 1 + 1 + 1 + 1) (70, 21) (by omega) g6
  have g8 := st _ (m + 1 + 1 + 1 + 1 + 1 + 1 + 1 + 1) (71, 21) (by omega) g7
  have g9 := st _ (m + 1 + 1 + 1 + 1 + 1 + 1 + 1 + 1 + 1) (72, 21) (by omega) g8
  have g10 := st _ (m + 1 + 1 + 1 + 1 + 1 + 1 + 1 + 1 + 1 + 1) (73, 21) (by omega) g9
  have g11 := st _ (m + 1 + 1 + 1 + 1 + 1 + 1 + 1 + 1 + 1 + 1 + 1) (74, 21) (by omega) g10
  have g12 := st _ (m + 1 + 1 + 1 + 1 + 1 + 1 + 1 + 1 + 1 + 1 + 1 + 1) (75, 21) (by omega) g11
  have g13 := st _ (m + 1 + 1 + 1 + 1 + 1 + 1 + 1 + 1 + 1 + 1 + 1 + 1 + 1) (76, 21) (by omega) g12
  have g14 := st _ (m + 1 + 1 + 1 + 1 + 1 + 1 + 1 + 1 + 1 + 1 + 1 + 1 + 1 + 1) (77, 21) (by omega) g13
  have g15 := st _ (m + 1 + 1 + 1 + 1 + 1 + 1 + 1 + 1 + 1 + 1 + 1 + 1 + 1 + 1 + 1) (78, 500000) (by omega) g14
  have k1 := fun (Q : Option Value → jM → Prop) (M : jM) => m_heldD (sv := sv) (d := d) (Q := Q) (M := M) (x := x) (lo := 10) (hi := 100)
  have e1 : hD x 10 100 = pgH x := rfl
  have S : Ev sv (d + 1) (52, 0, [some (.ref m), some (.int x), some (.int y), some (.int z)], []) (tv (m + 1) u g I J P) Q ↔ Ev sv (d + 1) (52, 137, [some (.ref m), some (.int x), some (.int y), some (.int z)], []) (tv (m + 16) (mU u) (mG g m) (ups (mI I m) 7 1 m (pgH x)) (mJ J m) (mP P m)) Q := by
    simp only [s_X5_init_0, s_X5_init_0n, s_X5_init_0z, s_X5_init_1, s_X5_init_4, s_X5_init_4n, s_X5_init_4z, s_X5_init_5, s_X5_init_7, s_X5_init_9, s_X5_init_9n, s_X5_init_12, s_X5_init_12n, s_X5_init_12z, s_X5_init_13, s_X5_init_15, s_X5_init_17, s_X5_init_17n, s_X5_init_20, s_X5_init_20n, s_X5_init_20z, s_X5_init_21, s_X5_init_23, s_X5_init_25, s_X5_init_25n, s_X5_init_28, s_X5_init_28n, s_X5_init_28z, s_X5_init_29, s_X5_init_31, s_X5_init_33, s_X5_init_33n, s_X5_init_36, s_X5_init_36n, s_X5_init_36z, s_X5_init_37, s_X5_init_39, s_X5_init_41, s_X5_init_41n, s_X5_init_44, s_X5_init_44n, s_X5_init_44z, s_X5_init_45, s_X5_init_48, s_X5_init_50, s_X5_init_50n, s_X5_init_53, s_X5_init_53n, s_X5_init_53z, s_X5_init_54, s_X5_init_56, s_X5_init_58, s_X5_init_58n, s_X5_init_61, s_X5_init_61n, s_X5_init_61z, s_X5_init_62, s_X5_init_64, s_X5_init_66, s_X5_init_66n, s_X5_init_69, s_X5_init_69n, s_X5_init_69z, s_X5_init_70, s_X5_init_72, s_X5_init_74, s_X5_init_74n, s_X5_init_77, s_X5_init_77n, s_X5_init_77z, s_X5_init_78, s_X5_init_80, s_X5_init_82, s_X5_init_82n, s_X5_init_85, s_X5_init_85n, s_X5_init_85z, s_X5_init_86, s_X5_init_88, s_X5_init_90, s_X5_init_90n, s_X5_init_93, s_X5_init_93n, s_X5_init_93z, s_X5_init_94, s_X5_init_96, s_X5_init_98, s_X5_init_98n, s_X5_init_101, s_X5_init_101n, s_X5_init_101z, s_X5_init_102, s_X5_init_104, s_X5_init_106, s_X5_init_106n, s_X5_init_109, s_X5_init_109n, s_X5_init_109z, s_X5_init_110, s_X5_init_112, s_X5_init_114, s_X5_init_114n, s_X5_init_117, s_X5_init_117n, s_X5_init_117z, s_X5_init_118, s_X5_init_120, s_X5_init_122, s_X5_init_122n, s_X5_init_125, s_X5_init_125n, s_X5_init_125z, s_X5_init_126, s_X5_init_127, s_X5_init_129, s_X5_init_131, s_X5_init_134, tl_some, tl_none, cv_int, cv_ref, cv_null, cv_long, cat_rf, jcv_nil, jcat_cons, jv_none, jv_int, jv_ref, jv_null, jw_rf, rf_some, rf_none, bz_0, bz_1, i1_0, i0_0, if_true, if_false, ite_self, List.nil_append, List.cons_append, Nat.reduceAdd, Nat.reduceLeDiff, Nat.zero_le, Nat.le_refl, and_self, and_true, true_and, not_true_eq_false, not_false_eq_true, reduceIte, h7, g1, g2, g3, g4, g5, g6, g7, g8, g9, g10, g11, g12, g13, g14, g15, k1, e1]
    exact Iff.rfl
  refine S.trans ?_
  exact m_ctor2 (d := d) g15 (if_pos ⟨rfl, rfl, rfl⟩)
/-- the reference's cells at the start -/
theorem mlay_new (h7 : jt g m = some 7) : MLay (mG g m) (mP P m) m := by
  have o : jt (mG g m) m = some 7 := by unfold mG; simp [jt_set]; exact h7
  unfold MLay
  refine ⟨o, ?_, ?_, ?_, ?_, ?_, ?_, ?_, ?_, ?_, ?_, ?_, ?_, ?_, ?_, ?_, ?_, ?_, ?_, ?_, ?_, ?_, ?_, ?_, ?_, ?_, ?_, ?_, ?_, ?_, ?_, ?_, ?_, ?_, ?_, ?_, ?_, ?_, ?_, ?_, ?_, ?_, ?_, ?_, ?_, ?_⟩
  all_goals first | (unfold mP; simp [ups_ap, upc_ap]; done) | (unfold mG; simp [jt_set]; done) | (unfold mG; simp [jn_set]; done)
theorem mov_new {I0 : tI} (hI : I = upc I0 7 m (fun _ => 0)) : ovl (ups (ups (ups (mI I m) 7 1 m (pgH x)) 7 2 m (fsH x y)) 7 3 m (ftH x y z)) m (iA (pgH x) (fsH x y) (ftH x y z)) = ups (ups (ups (mI I m) 7 1 m (pgH x)) 7 2 m (fsH x y)) 7 3 m (ftH x y z) := by
  refine ovl_self (fun κ k h => ?_)
  by_cases c : κ = 7
  · subst c hI
    show ups (ups (ups (mI (upc I0 7 m (fun _ => 0)) m) 7 1 m (pgH x)) 7 2 m (fsH x y)) 7 3 m (ftH x y z) 7 k m = iA (pgH x) (fsH x y) (ftH x y z) 7 k
    unfold mI iA
    simp only [ups_ap, upc_ap]
    by_cases k1 : k = 1
    · subst k1; simp
    by_cases k2 : k = 2
    · subst k2; simp
    by_cases k3 : k = 3
    · subst k3; simp
    simp [k1, k2, k3]
  · rw [iA_o c, ups_ap, if_neg (fun q => c q.1), ups_ap, if_neg (fun q => c q.1), ups_ap, if_neg (fun q => c q.1)]
    have hm : madr m κ = m + (κ - 63) := if_neg c
    rw [hm]
    have hr : 64 ≤ κ ∧ κ ≤ 78 := by
      unfold ismk at h
      simp at h
      omega
    obtain ⟨j, rfl⟩ : ∃ j, κ = 64 + j := ⟨κ - 64, by omega⟩
    have hj : j < 15 := by omega
    have e : m + (64 + j - 63) = m + (j + 1) := by omega
    rw [e]
    unfold mI
    simp only [upc_ap]
    by_cases c1 : j = 0
    · subst c1; simp
    by_cases c2 : j = 1
    · subst c2; simp
    by_cases c3 : j = 2
    · subst c3; simp
    by_cases c4 : j = 3
    · subst c4; simp
    by_cases c5 : j = 4
    · subst c5; simp
    by_cases c6 : j = 5
    · subst c6; simp
    by_cases c7 : j = 6
    · subst c7; simp
    by_cases c8 : j = 7
    · subst c8; simp
    by_cases c9 : j = 8
    · subst c9; simp
    by_cases c10 : j = 9
    · subst c10; simp
    by_cases c11 : j = 10
    · subst c11; simp
    by_cases c12 : j = 11
    · subst c12; simp
    by_cases c13 : j = 12
    · subst c13; simp
    by_cases c14 : j = 13
    · subst c14; simp
    by_cases c15 : j = 14
    · subst c15; simp
    omega
theorem mov_newJ : ovJ (mJ J m) m (fun _ => 0) = mJ J m := by
  refine ovJ_self (fun k => ?_)
  unfold mJ
  simp [upc_ap]
theorem mnew_lo {κ : Nat} (h1 : κ < 64) (h2 : κ ≠ 7) : ups (ups (ups (mI I m) 7 1 m (pgH x)) 7 2 m (fsH x y)) 7 3 m (ftH x y z) κ = I κ ∧ mJ J m κ = J κ ∧ mP P m κ = P κ := by
  refine ⟨?_, ?_, ?_⟩
  · rw [ups_o h2, ups_o h2, ups_o h2]
    unfold mI
    iterate 15 rw [upc_o (by omega)]
  · unfold mJ
    iterate 15 rw [upc_o (by omega)]
  · unfold mP
    iterate 15 rw [ups_o h2, upc_o (by omega)]
theorem mG_le (htg : ∀ b κ, jt g b = some κ → b < m + 1) : gle g (mG g m) ∧ ∀ b κ, jt (mG g m) b = some κ → b < m + 16 := by
  constructor
  · intro b κ hb
    have := htg _ _ hb
    unfold mG
    simp only [jt_set, jn_set]
    iterate 15 rw [if_neg (by omega)]
    iterate 15 rw [if_neg (by omega)]
    exact ⟨hb, rfl⟩
  · intro b κ hb
    by_cases c : b < m + 16
    · exact c
    · exfalso
      unfold mG at hb
      simp only [jt_set] at hb
      iterate 15 rw [if_neg (by omega)] at hb
      have := htg _ _ hb
      omega
end
