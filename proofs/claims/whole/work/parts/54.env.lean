-- ===== what the reference's own cells do to the relation: nothing =====
section
variable {sv : Nat → Value} {t t' u : Nat} {g g' : jG} {I I' : tI} {J J' : tJ} {P P' : tP} {A B : Nat → Nat → Int32} {T T' : Nat → Int64} {ω : Wd} {tb ub st : Nat}
theorem Rel.env (h : Rel sv ω t g I J P A T tb ub) (hg : gle g g') (htg' : ∀ b κ, jt g' b = some κ → b < t') (ho : ∀ κ, κ < 64 → κ ≠ 7 → I' κ = I κ ∧ J' κ = J κ ∧ P' κ = P κ) : Rel sv ω t' g' I' J' P' A T tb ub := by
  obtain ⟨hC, hV1, hG, hS, hP, hD, htg, hw, hl, hs1⟩ := h
  obtain ⟨c1, c2, c3, c4, c5, c6, c7, c8, c9, c10, c11, c12, c13⟩ := hC
  have o1 := ho 1 (by decide) (by decide)
  have o2 := ho 2 (by decide) (by decide)
  have o3 := ho 3 (by decide) (by decide)
  have o4 := ho 4 (by decide) (by decide)
  have o5 := ho 5 (by decide) (by decide)
  have o6 := ho 6 (by decide) (by decide)
  have o53 := ho 53 (by decide) (by decide)
  have o60 := ho 60 (by decide) (by decide)
  have o61 := ho 61 (by decide) (by decide)
  have o62 := ho 62 (by decide) (by decide)
  have o63 := ho 63 (by decide) (by decide)
  have lst : ∀ a e c n f, Lst sv g I P a e c n f → Lst sv g' I' P' a e c n f := fun a e c n f h => h.congr (by rw [o1.1]) (by rw [o1.2.2]) (fun i _ => by rw [o53.2.2]) hg
  refine ⟨⟨(hg _ _ c1).1, by rw [o6.2.2]; exact c2, by rw [o6.2.2]; exact c3, by rw [o6.2.2]; exact c4, by rw [o6.1]; exact c5, by rw [o6.1]; exact c6, by rw [o6.1]; exact c7, by rw [o6.1]; exact c8, by rw [o6.1]; exact c9, by rw [o6.1]; exact c10, by rw [o6.1]; exact c11, by rw [o6.1]; exact c12, by rw [o6.1]; exact c13⟩, ?_, ?_, ?_, ?_, hD, htg', hw, hl, hs1⟩
  · obtain ⟨v1, v2, v3, v4, v5, v6, v7, v8⟩ := hV1
    exact ⟨by rw [o6.2.2]; exact v1, by rw [o6.2.2]; exact v2, (hg _ _ v3).1, by rw [(hg _ _ v3).2]; exact v4, (hg _ _ v5).1, by rw [(hg _ _ v5).2]; exact v6, by rw [o60.1]; exact v7, by rw [o61.1]; exact v8⟩
  · obtain ⟨hLg, hGs, hGi, hGb⟩ := hG
    refine ⟨lst _ _ _ _ _ hLg, fun i hi => ?_, hGi, hGb⟩
    obtain ⟨k1, k2, k3, k4, k5, k6, k7, k8, k9, k10, k11, k12⟩ := hGs i hi
    exact ⟨(hg _ _ k1).1, by rw [o2.2.2]; exact k2, (hg _ _ k3).1, by rw [(hg _ _ k3).2]; exact k4, by rw [o2.1]; exact k5, by rw [o2.1]; exact k6, by rw [o2.1]; exact k7, by rw [o2.1]; exact k8, by rw [o2.1]; exact k9, by rw [o2.1]; exact k10, by rw [o2.1]; exact k11, by rw [o62.1]; exact k12⟩
  · obtain ⟨hLs, hSs, hSi⟩ := hS
    refine ⟨lst _ _ _ _ _ hLs, fun i hi => ?_, hSi⟩
    obtain ⟨s1, s2, s3, s4, s5, s6⟩ := hSs i hi
    exact ⟨(hg _ _ s1).1, by rw [o5.1]; exact s2, by rw [o5.1]; exact s3, by rw [o5.1]; exact s4, by rw [o5.1]; exact s5, by rw [o5.2.1]; exact s6⟩
  · obtain ⟨p1, p2, p3, he, hc, nsh, ha, hb, p4, p5, p6, p7, p8, p9, p10, p11, p12, p13, p14⟩ := hP
    refine ⟨(hg _ _ p1).1, by rw [o3.2.2]; exact p2, by rw [o3.1]; exact p3, he, hc, nsh, ha, hb, lst _ _ _ _ _ p4, p5, fun q hq => ?_, p7, p8, p9, by rw [o63.1]; exact p10, p11, p12, fun hee => (hg _ _ (p13 hee)).1, fun hee => (hg _ _ (p14 hee)).1⟩
    obtain ⟨s1, s2, s3, s4⟩ := p6 q hq
    exact ⟨(hg _ _ s1).1, by rw [o4.2.2]; exact s2, (hg _ _ s3).1, by rw [(hg _ _ s3).2]; exact s4⟩
theorem Inv.env (h : Inv ω I A st) (h2 : I' 2 = I 2) (h6 : I' 6 = I 6) : Inv ω I' A st := by
  obtain ⟨i1, i2, i3, i4, i5, i6, i7⟩ := h
  refine ⟨i1, i2, i3, ?_, i5, ?_, ?_⟩
  · unfold RT at i4 ⊢
    rw [h2, h6]
    exact i4
  · rw [h6]
    exact i6
  · unfold RI at i7 ⊢
    rw [h2, h6]
    exact i7
theorem Dg.env (h : Dg ω g A) (hg : gle g g') : Dg ω g' A := ⟨fun e => (hg _ _ (h.1 e)).1, h.2⟩
theorem MLay.env {m : Nat} (h : MLay g P m) (hg : gle g g') (h7 : P' 7 = P 7) : MLay g' P' m := by
  obtain ⟨hm, p64, t64, n64, p65, t65, n65, p66, t66, n66, p67, t67, n67, p68, t68, n68, p69, t69, n69, p70, t70, n70, p71, t71, n71, p72, t72, n72, p73, t73, n73, p74, t74, n74, p75, t75, n75, p76, t76, n76, p77, t77, n77, p78, t78, n78⟩ := h
  have n : ∀ {b κ c : Nat}, jt g b = some κ → jn g b = c → jn g' b = c := fun h1 h2 => by rw [(hg _ _ h1).2]; exact h2
  unfold MLay
  rw [h7]
  exact ⟨(hg _ _ hm).1, p64, (hg _ _ t64).1, n t64 n64, p65, (hg _ _ t65).1, n t65 n65, p66, (hg _ _ t66).1, n t66 n66, p67, (hg _ _ t67).1, n t67 n67, p68, (hg _ _ t68).1, n t68 n68, p69, (hg _ _ t69).1, n t69 n69, p70, (hg _ _ t70).1, n t70 n70, p71, (hg _ _ t71).1, n t71 n71, p72, (hg _ _ t72).1, n t72 n72, p73, (hg _ _ t73).1, n t73 n73, p74, (hg _ _ t74).1, n t74 n74, p75, (hg _ _ t75).1, n t75 n75, p76, (hg _ _ t76).1, n t76 n76, p77, (hg _ _ t77).1, n t77 n77, p78, (hg _ _ t78).1, n t78 n78⟩
/-- the reference's cells, laid over any others -/
theorem ovl_self {X : tI} {m : Nat} (h : ∀ κ k, ismk κ = true → X κ k (madr m κ) = A κ k) : ovl X m A = X := by
  funext κ k b
  unfold ovl
  by_cases c : ismk κ = true ∧ b = madr m κ
  · rw [if_pos c, c.2, h κ k c.1]
  · rw [if_neg c]
theorem ovJ_self {X : tJ} {m : Nat} (h : ∀ k, X 77 k (m + 14) = T k) : ovJ X m T = X := by
  funext κ k b
  unfold ovJ
  by_cases c : κ = 77 ∧ b = m + 14
  · rw [if_pos c, c.1, c.2, h k]
  · rw [if_neg c]
theorem ismk_ge {κ : Nat} (h : ismk κ = true) : κ = 7 ∨ 64 ≤ κ := by
  unfold ismk at h
  simp at h
  omega
theorem ovl_lo {m κ : Nat} (h1 : κ < 64) (h2 : κ ≠ 7) : ovl I m A κ = I κ := by
  funext k b
  unfold ovl
  rw [if_neg]
  intro q
  have := ismk_ge q.1
  omega
theorem ovJ_lo {m κ : Nat} (h1 : κ < 64) : ovJ J m T κ = J κ := by
  funext k b
  unfold ovJ
  rw [if_neg]
  intro q
  omega
/-- what the class's calls leave of the reference -/
theorem ovl_keep {m : Nat} (h : ∀ κ, κ = 7 ∨ 64 ≤ κ → I' κ = ovl I m A κ) : ovl I' m A = I' := ovl_self (fun κ k hκ => by rw [h κ (ismk_ge hκ)]; exact ovl_r hκ)
theorem ovJ_keep {m : Nat} (h : ∀ κ, κ = 7 ∨ 64 ≤ κ → J' κ = ovJ J m T κ) : ovJ J' m T = J' := ovJ_self (fun k => by rw [h 77 (by omega)]; exact if_pos ⟨rfl, rfl⟩)
end
