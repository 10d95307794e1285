-- ===== the relation as a whole =====
theorem lat_congr {A B : Nat → Nat → Int32} (h : ∀ j, B 69 j = A 69 j) (gi : Nat) (top : Int32) : ∀ k, lat B gi top k = lat A gi top k
  | 0 => rfl
  | k + 1 => by
    show lat B gi top k + B 69 _ = lat A gi top k + A 69 _
    rw [lat_congr h gi top k, h]
theorem GrpAt.congr {g g' : jG} {I I' : tI} {P P' : tP} {A B : Nat → Nat → Int32} {G b gi : Nat} (h : GrpAt g I P A G b gi) (hA : ∀ κ j, 66 ≤ κ → κ ≤ 72 → B κ j = A κ j) (hI2 : ∀ k, k ≠ 9 → I' 2 k G = I 2 k G) (hI62 : ∀ k, I' 62 k b = I 62 k b) (hP2 : P' 2 6 G = P 2 6 G) (hg : gle g g') : GrpAt g' I' P' B G b gi := by
  obtain ⟨g1, g2, g3, g4, g5, g6, g7, g8, g9, g10, g11, g12⟩ := h
  have hm : mnA B gi = mnA A gi := by unfold mnA; rw [hA 68 gi (by decide) (by decide)]
  refine ⟨(hg _ _ g1).1, by rw [hP2]; exact g2, (hg _ _ g3).1, by rw [(hg _ _ g3).2]; exact g4, by rw [hI2 0 (by decide)]; exact g5, by rw [hI2 1 (by decide), hA 66 gi (by decide) (by decide)]; exact g6, by rw [hI2 2 (by decide), hA 67 gi (by decide) (by decide)]; exact g7, by rw [hI2 5 (by decide), hA 68 gi (by decide) (by decide)]; exact g8, by rw [hI2 7 (by decide), hA 71 gi (by decide) (by decide)]; exact g9, by rw [hI2 8 (by decide), hA 72 gi (by decide) (by decide)]; exact g10, ?_, ?_⟩
  · rw [hm, hI2 3 (by decide), hI2 4 (by decide), hA 69 (10 * gi) (by decide) (by decide), hA 70 gi (by decide) (by decide)]
    exact g11
  · intro j hj
    rw [hI62, lat_congr (fun j => hA 69 j (by decide) (by decide))]
    exact g12 j (by rw [← hm]; exact hj)
theorem RG.congr {sv : Nat → Value} {ω : Wd} {g g' : jG} {I I' : tI} {P P' : tP} {A B : Nat → Nat → Int32} (h : RG sv ω g I P A) (hA : ∀ κ j, 66 ≤ κ → κ ≤ 72 → B κ j = A κ j) (hn : B 7 5 = A 7 5) (hl : ∀ n f, Lst sv g I P (ω.1 1) ω.2.2.2.2.1 ω.2.2.2.2.2.1 n f → Lst sv g' I' P' (ω.1 1) ω.2.2.2.2.1 ω.2.2.2.2.2.1 n f) (hI2 : ∀ k b, k ≠ 9 → I' 2 k b = I 2 k b) (hI62 : I' 62 = I 62) (hP2 : P' 2 = P 2) (hg : gle g g') : RG sv ω g' I' P' B := by
  have e : ngA B = ngA A := by unfold ngA; rw [hn]
  obtain ⟨h1, h2, h3, h4⟩ := h
  refine ⟨by rw [e]; exact hl _ _ h1, fun i hi => ?_, by rw [e]; exact h3, by rw [e]; exact h4⟩
  rw [e] at hi
  exact (h2 i hi).congr hA (fun k hk => hI2 k _ hk) (fun k => by rw [hI62]) (by rw [hP2]) hg
theorem RS.congr {sv : Nat → Value} {ω : Wd} {g g' : jG} {I I' : tI} {J J' : tJ} {P P' : tP} {A B : Nat → Nat → Int32} {T : Nat → Int64} (h : RS sv ω g I J P A T) (hA : ∀ κ j, (74 ≤ κ ∧ κ ≤ 76) ∨ κ = 67 → B κ j = A κ j) (hn : B 7 6 = A 7 6) (hl : ∀ n f, Lst sv g I P (ω.1 2) ω.2.2.2.2.2.2.1 ω.2.2.2.2.2.2.2 n f → Lst sv g' I' P' (ω.1 2) ω.2.2.2.2.2.2.1 ω.2.2.2.2.2.2.2 n f) (hI5 : I' 5 = I 5) (hJ5 : J' 5 = J 5) (hg : gle g g') : RS sv ω g' I' J' P' B T := by
  have e : nsA B = nsA A := by unfold nsA; rw [hn]
  obtain ⟨h1, h2, h3⟩ := h
  refine ⟨by rw [e]; exact hl _ _ h1, fun i hi => ?_, by rw [e]; exact h3⟩
  rw [e] at hi
  obtain ⟨s1, s2, s3, s4, s5, s6⟩ := h2 i hi
  have a74 := hA 74 (i + 1) (Or.inl ⟨by decide, by decide⟩)
  exact ⟨(hg _ _ s1).1, by rw [hI5, a74]; exact s2, by rw [hI5, a74, hA 67 _ (Or.inr rfl)]; exact s3, by rw [hI5, hA 75 _ (Or.inl ⟨by decide, by decide⟩)]; exact s4, by rw [hI5, hA 76 _ (Or.inl ⟨by decide, by decide⟩)]; exact s5, by rw [hJ5]; exact s6⟩
theorem RV.congr {ω : Wd} {g g' : jG} {I I' : tI} {P P' : tP} {A B : Nat → Nat → Int32} (h : RV ω g I P A) (hA : ∀ j, B 64 j = A 64 j) (hA2 : ∀ j, B 65 j = A 65 j) (h60 : I' 60 = I 60) (h61 : I' 61 = I 61) (hP6 : P' 6 = P 6) (hg : gle g g') : RV ω g' I' P' B := by
  obtain ⟨v1, v2, v3, v4, v5, v6, v7, v8⟩ := h
  exact ⟨by rw [hP6]; exact v1, by rw [hP6]; exact v2, (hg _ _ v3).1, by rw [(hg _ _ v3).2]; exact v4, (hg _ _ v5).1, by rw [(hg _ _ v5).2]; exact v6, fun k hk => by rw [h60, hA]; exact v7 k hk, fun k hk => by rw [h61, hA2]; exact v8 k hk⟩
theorem RP.congr {sv : Nat → Value} {ω : Wd} {g : jG} {I I' : tI} {P : tP} {A B : Nat → Nat → Int32} {tb ub : Nat} (h : RP sv ω g I P A tb ub) (hA : ∀ j, B 78 j = A 78 j) (hn : B 7 28 = A 7 28) (h1 : I' 1 = I 1) (h3 : I' 3 = I 3) (h63 : I' 63 = I 63) : RP sv ω g I' P B tb ub := by
  have e : ln B = ln A := by unfold ln; rw [hn]
  obtain ⟨p1, p2, p3, he, hc, nsh, ha, hb, p4, p5, p6, p7, p8, p9, p10, p11, p12, p13, p14⟩ := h
  refine ⟨p1, p2, by rw [h3, hn]; exact p3, he, hc, nsh, ha, hb, p4.congr (by rw [h1]) rfl (fun _ _ => rfl) (gle_rf g), p5, p6, p7, p8, by rw [e]; exact p9, fun i hi c hc5 => ?_, p11, p12, p13, p14⟩
  rw [h63, hA]
  exact p10 i (by rw [← e]; exact hi) c hc5
def Rel (sv : Nat → Value) (ω : Wd) (t : Nat) (g : jG) (I : tI) (J : tJ) (P : tP) (A : Nat → Nat → Int32) (T : Nat → Int64) (tb ub : Nat) : Prop := RC ω g I P A ∧ RV ω g I P A ∧ RG sv ω g I P A ∧ RS sv ω g I J P A T ∧ RP sv ω g I P A tb ub ∧ RD ω ∧ (∀ b κ, jt g b = some κ → b < t) ∧ WfA A ∧ LnA A ∧ (∃ mi, sv 1 = .ref mi)
/-- what the class's calls leave, and what they make -/
def Nx (t u : Nat) (g : jG) (I : tI) (J : tJ) (P : tP) (tb ub : Nat) (t' u' : Nat) (g' : jG) (I' : tI) (J' : tJ) (P' : tP) (tb' ub' : Nat) : Prop := gle g g' ∧ (∀ κ, κ = 7 ∨ 64 ≤ κ → I' κ = I κ ∧ J' κ = J κ ∧ P' κ = P κ) ∧ t ≤ t' ∧ u ≤ u' ∧ t' + tb ≤ t + tb' ∧ u' + ub ≤ u + ub'
theorem Nx.tr {t u : Nat} {g : jG} {I : tI} {J : tJ} {P : tP} {tb ub : Nat} {t' u' : Nat} {g' : jG} {I' : tI} {J' : tJ} {P' : tP} {tb' ub' : Nat} {t2 u2 : Nat} {g2 : jG} {I2 : tI} {J2 : tJ} {P2 : tP} {tb2 ub2 : Nat} (h : Nx t u g I J P tb ub t' u' g' I' J' P' tb' ub') (h2 : Nx t' u' g' I' J' P' tb' ub' t2 u2 g2 I2 J2 P2 tb2 ub2) : Nx t u g I J P tb ub t2 u2 g2 I2 J2 P2 tb2 ub2 := by
  obtain ⟨a1, a2, a3, a4, a5, a6⟩ := h
  obtain ⟨b1, b2, b3, b4, b5, b6⟩ := h2
  refine ⟨a1.tr b1, fun κ hκ => ?_, by omega, by omega, by omega, by omega⟩
  obtain ⟨c1, c2, c3⟩ := a2 κ hκ
  obtain ⟨d1, d2, d3⟩ := b2 κ hκ
  exact ⟨d1.trans c1, d2.trans c2, d3.trans c3⟩
theorem Nx_I {t u : Nat} {g : jG} {I I' : tI} {J : tJ} {P : tP} {tb ub : Nat} (h : ∀ κ, κ = 7 ∨ 64 ≤ κ → I' κ = I κ) : Nx t u g I J P tb ub t u g I' J P tb ub := ⟨gle_rf g, fun κ hκ => ⟨h κ hκ, rfl, rfl⟩, Nat.le_refl _, Nat.le_refl _, Nat.le_refl _, Nat.le_refl _⟩
theorem putA_o {A : Nat → Nat → Int32} {gi : Nat} {k a v : Int32} {κ j : Nat} (h1 : κ ≠ 78) (h2 : ¬ (κ = 7 ∧ (j = 25 ∨ j = 28))) : putA A gi k a v κ j = A κ j := by
  unfold putA
  rw [upA_ap, if_neg (fun q => h2 ⟨q.1, Or.inl q.2⟩), upA_ap, if_neg (fun q => h2 ⟨q.1, Or.inr q.2⟩), upA_ap, if_neg (fun q => h1 q.1), upA_ap, if_neg (fun q => h1 q.1), upA_ap, if_neg (fun q => h1 q.1), upA_ap, if_neg (fun q => h1 q.1), upA_ap, if_neg (fun q => h1 q.1)]
theorem Rel.ge {sv : Nat → Value} {ω : Wd} {t : Nat} {g : jG} {I : tI} {J : tJ} {P : tP} {A : Nat → Nat → Int32} {T : Nat → Int64} {tb ub : Nat} (h : Rel sv ω t g I J P A T tb ub) : (∃ κ, jt g ω.2.2.2.2.1 = some κ) ∧ ∃ κ, jt g ω.2.2.2.2.2.2.1 = some κ := by
  constructor
  · rcases h.2.2.1.1.2.2.2.2.2.2.1 with ⟨-, k, -⟩ | ⟨-, k⟩ <;> exact ⟨_, k⟩
  · rcases h.2.2.2.1.1.2.2.2.2.2.2.1 with ⟨-, k, -⟩ | ⟨-, k⟩ <;> exact ⟨_, k⟩
section
variable {sv : Nat → Value} {d t u : Nat} {Q : Option Value → jM → Prop} {g : jG} {I : tI} {J : tJ} {P : tP} {A : Nat → Nat → Int32} {T : Nat → Int64} {ω : Wd} {tb ub : Nat} {x y z : Int32}
/-- things that printing lines leaves: the latest body line, the stretches -/
def Kp (ω : Wd) (I I' : tI) : Prop := I' 6 12 (ω.1 0) = I 6 12 (ω.1 0) ∧ I' 6 15 (ω.1 0) = I 6 15 (ω.1 0) ∧ ∀ b, I' 2 9 b = I 2 9 b
theorem Kp.tr {ω : Wd} {I I' I2 : tI} (h : Kp ω I I') (h2 : Kp ω I' I2) : Kp ω I I2 := ⟨h2.1.trans h.1, h2.2.1.trans h.2.1, fun b => (h2.2.2 b).trans (h.2.2 b)⟩
/-- one line: the latest line is told, the line added -/
theorem c_line1 (hR : Rel sv ω t g I J P A T tb ub) (hb : ln A < 100000) {gi : Nat} {k a v : Int32}
    (K : ∀ (t' u' : Nat) (g' : jG) (I' : tI) (J' : tJ) (P' : tP) (tb' ub' : Nat), Rel sv ω t' g' I' J' P' (putA A gi k a v) T tb' ub' → Nx t u g I J P tb ub t' u' g' I' J' P' tb' ub' → Kp ω I I' → Q none (tv t' u' g' I' J' P')) :
    Ev sv (d + 7) (6, 0, [some (.ref (ω.1 5)), some (.int (A 7 24)), some (.int a), some (.int (nI gi)), some (.int k), some (.int v), none, none, none], []) (tv t u g (ups I 6 11 (ω.1 0) a) J P) Q := by
  have hge := hR.ge
  obtain ⟨hC, hV, hG, hS, hP, hD, htg, hw, hl, mi, hs1⟩ := hR
  have hP1 : RP sv ω g (ups I 6 11 (ω.1 0) a) P A tb ub := hP.congr (fun _ => rfl) rfl (ups_o (by decide)) (ups_o (by decide)) (ups_o (by decide))
  refine c_add hs1 hD hP1 hl hb htg hge.1 hge.2 (fun t' u' g' I' J' P' tb' ub' r1 r2 r3 r4 r5 r6 r7 => ?_)
  obtain ⟨f1, f2, f3, f4⟩ := r2
  have i6 : I' 6 = (ups I 6 11 (ω.1 0) a) 6 := (f2 6 (by decide) (by decide) (by decide) (by decide) (by decide)).1
  have p6 : P' 6 = P 6 := (f2 6 (by decide) (by decide) (by decide) (by decide) (by decide)).2.2
  have i2 : I' 2 = I 2 := ((f2 2 (by decide) (by decide) (by decide) (by decide) (by decide)).1).trans (ups_o (by decide))
  have i5 : I' 5 = I 5 := ((f2 5 (by decide) (by decide) (by decide) (by decide) (by decide)).1).trans (ups_o (by decide))
  have i60 : I' 60 = I 60 := ((f2 60 (by decide) (by decide) (by decide) (by decide) (by decide)).1).trans (ups_o (by decide))
  have i61 : I' 61 = I 61 := ((f2 61 (by decide) (by decide) (by decide) (by decide) (by decide)).1).trans (ups_o (by decide))
  have i62 : I' 62 = I 62 := ((f2 62 (by decide) (by decide) (by decide) (by decide) (by decide)).1).trans (ups_o (by decide))
  have p2 : P' 2 = P 2 := (f2 2 (by decide) (by decide) (by decide) (by decide) (by decide)).2.2
  have j5 : J' 5 = J 5 := (f2 5 (by decide) (by decide) (by decide) (by decide) (by decide)).2.1
  have o6 : ∀ k, k ≠ 11 → I' 6 k (ω.1 0) = I 6 k (ω.1 0) := fun k hk => by rw [i6, ups_ap, if_neg (fun q => hk q.2.1)]
  have o11 : I' 6 11 (ω.1 0) = a := by rw [i6, ups_ap, if_pos ⟨rfl, rfl, rfl⟩]
  have pa : ∀ κ j, κ ≠ 78 → κ ≠ 7 → putA A gi k a v κ j = A κ j := fun κ j h1 h2 => putA_o h1 (fun q => h2 q.1)
  have p7 : ∀ j, j ≠ 25 → j ≠ 28 → putA A gi k a v 7 j = A 7 j := fun j h1 h2 => putA_o (by decide) (fun q => q.2.elim h1 h2)
  have hfrA : fr A (putA A gi k a v) := putA_fr (fr_rf A)
  refine K t' u' g' I' J' P' tb' ub' ⟨?_, ?_, ?_, ?_, r1, hD, r3, hfrA.wf hw, ?_, mi, hs1⟩ ⟨f1, fun κ hκ => ?_, r4, r5, r6, r7⟩ ⟨o6 12 (by decide), o6 15 (by decide), fun b => by rw [i2]⟩
  · obtain ⟨c1, c2, c3, c4, c5, c6, c7, c8, c9, c10, c11, c12, c13⟩ := hC
    exact ⟨(f1 _ _ c1).1, by rw [p6]; exact c2, by rw [p6]; exact c3, by rw [p6]; exact c4, by rw [o6 0 (by decide), p7 1 (by decide) (by decide)]; exact c5, by rw [o6 1 (by decide), p7 2 (by decide) (by decide)]; exact c6, by rw [o6 2 (by decide), p7 3 (by decide) (by decide)]; exact c7, by rw [o6 5 (by decide), p7 4 (by decide) (by decide)]; exact c8, by rw [o6 9 (by decide), p7 21 (by decide) (by decide)]; exact c9, by rw [o6 10 (by decide), p7 24 (by decide) (by decide)]; exact c10, by rw [o11]; rfl, by rw [o6 13 (by decide), p7 22 (by decide) (by decide)]; exact c12, by rw [o6 14 (by decide), p7 23 (by decide) (by decide)]; exact c13⟩
  · exact hV.congr (fun j => pa 64 j (by decide) (by decide)) (fun j => pa 65 j (by decide) (by decide)) i60 i61 p6 f1
  · refine hG.congr (fun κ j h1 h2 => pa κ j (by omega) (by omega)) (p7 5 (by decide) (by decide)) (fun n f h => f3 n f (h.congr rfl rfl (fun _ _ => rfl) (gle_rf g))) (fun k b _ => by rw [i2]) i62 p2 f1
  · exact hS.congr (fun κ j h => pa κ j (by omega) (by omega)) (p7 6 (by decide) (by decide)) (fun n f h => f4 n f (h.congr rfl rfl (fun _ _ => rfl) (gle_rf g))) i5 j5 f1
  · unfold LnA
    rw [putA_ln hb]
    rfl
  · obtain ⟨q1, q2, q3⟩ := f2 κ (by omega) (by omega) (by omega) (by omega) (by omega)
    exact ⟨q1.trans (ups_o (by omega)), q2, q3⟩
end
