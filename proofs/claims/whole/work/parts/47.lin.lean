-- ===== line =====
theorem lat_cg {A B : Nat → Nat → Int32} {gi : Nat} {top : Int32} : ∀ k, (∀ j, 1 ≤ j → j ≤ k → B 69 (10 * gi + j) = A 69 (10 * gi + j)) → lat B gi top k = lat A gi top k
  | 0, _ => rfl
  | k + 1, h => by
    show lat B gi top k + B 69 (10 * gi + (k + 1)) = lat A gi top k + A 69 (10 * gi + (k + 1))
    rw [lat_cg k (fun j h1 h2 => h j h1 (by omega)), h (k + 1) (by omega) (by omega)]
section
variable {A : Nat → Nat → Int32} {gi : Nat} {n rel : Int32}
theorem linA_o {κ j : Nat} (h1 : ¬ (κ = 68 ∧ j = gi)) (h2 : ¬ (κ = 69 ∧ j = 10 * gi + mnA A gi)) (h3 : ¬ (κ = 70 ∧ j = gi)) : linA A gi n rel κ j = cdA A κ j := by
  unfold linA
  rw [upA_ap, if_neg h1]
  split
  · rw [upA_ap, if_neg h3, upA_ap, if_neg h2]
  · rw [upA_ap, if_neg h2]
theorem linA_68 : linA A gi n rel 68 gi = nI (mnA A gi + 1) := by
  unfold linA
  rw [upA_ap, if_pos ⟨rfl, rfl⟩]
theorem linA_69 : linA A gi n rel 69 (10 * gi + mnA A gi) = n := by
  unfold linA
  rw [upA_ap, if_neg (fun q => absurd q.1 (by decide))]
  split
  · rw [upA_ap, if_neg (fun q => absurd q.1 (by decide)), upA_ap, if_pos ⟨rfl, rfl⟩]
  · rw [upA_ap, if_pos ⟨rfl, rfl⟩]
theorem linA_70 (h : A 68 gi = 0) : linA A gi n rel 70 gi = if rel = 0 then 1 else 0 := by
  unfold linA
  rw [upA_ap, if_neg (fun q => absurd q.1 (by decide)), if_pos h, upA_ap, if_pos ⟨rfl, rfl⟩]
theorem linA_70n (h : ¬ A 68 gi = 0) : linA A gi n rel 70 gi = A 70 gi := by
  unfold linA
  rw [upA_ap, if_neg (fun q => absurd q.1 (by decide)), if_neg h, upA_ap, if_neg (fun q => absurd q.1 (by decide))]
  rfl
end
section
variable {sv : Nat → Value} {d t u : Nat} {Q : Option Value → jM → Prop} {g : jG} {I I' : tI} {J : tJ} {P : tP} {A B : Nat → Nat → Int32} {T T' : Nat → Int64} {ω : Wd} {tb ub st : Nat} {x y z : Int32}
theorem linA_wf (hw : WfA A) {gi : Nat} (hm : mnA A gi < 10) : WfA (linA A gi y z) ∧ ∀ j, mnA (linA A gi y z) j = if j = gi then mnA A gi + 1 else mnA A j := by
  have o7 : ∀ j, linA A gi y z 7 j = cdA A 7 j := fun j => linA_o (by omega) (by omega) (by omega)
  have hmn : ∀ j, mnA (linA A gi y z) j = if j = gi then mnA A gi + 1 else mnA A j := by
    intro j
    by_cases h : j = gi
    · rw [if_pos h, h]
      unfold mnA
      rw [linA_68]
      exact nI_clamp (by omega)
    · rw [if_neg h]
      unfold mnA
      rw [linA_o (by omega) (by omega) (by omega)]
      rfl
  have eng : ngA (linA A gi y z) = ngA A := by unfold ngA; rw [o7]; rfl
  have ens : nsA (linA A gi y z) = nsA A := by unfold nsA; rw [o7]; rfl
  have enc : ncA (linA A gi y z) = ncA A := by unfold ncA; rw [o7]; rfl
  refine ⟨⟨by rw [eng, o7]; exact hw.1, by rw [ens, o7]; exact hw.2.1, by rw [enc, o7]; exact hw.2.2.1, fun i => ?_, fun s h1 h2 => ?_⟩, hmn⟩
  · rw [hmn]
    by_cases h : i = gi
    · rw [if_pos h, h, linA_68]
      exact ⟨rfl, by omega⟩
    · rw [if_neg h, linA_o (by omega) (by omega) (by omega)]
      exact hw.2.2.2.1 i
  · rw [ens] at h2
    rw [eng, linA_o (by omega) (by omega) (by omega)]
    exact hw.2.2.2.2 s h1 h2
theorem Rel.lin (hR : Rel sv ω t g I J P A T tb ub) {i : Nat} (hi : i < ngA A) (hm : mnA A (i + 1) < 10) (a1 : ∀ κ, κ ≠ 2 → κ ≠ 62 → I' κ = I κ) (a2 : ∀ k b, ¬ (b = ω.2.1 i ∧ (k = 3 ∨ k = 4 ∨ k = 5)) → I' 2 k b = I 2 k b) (a3 : I' 2 5 (ω.2.1 i) = nI (mnA A (i + 1) + 1)) (a4 : I' 2 3 (ω.2.1 i) = linA A (i + 1) y z 69 (10 * (i + 1)) ∧ (I' 2 4 (ω.2.1 i) = 0 ↔ ¬ linA A (i + 1) y z 70 (i + 1) = 0)) (a5 : ∀ k b, ¬ b = ω.2.2.1 i → I' 62 k b = I 62 k b) (a6 : ∀ j, j < mnA A (i + 1) + 1 → I' 62 j (ω.2.2.1 i) = lat (linA A (i + 1) y z) (i + 1) 0 j) : Rel sv ω t g I' J P (linA A (i + 1) y z) T tb ub := by
  obtain ⟨hC, hV1, hG, hS, hP, hD, htg, hw, hl, hs⟩ := hR
  obtain ⟨hwl, hmn⟩ := linA_wf (y := y) (z := z) hw hm
  have o : ∀ κ j, κ ≠ 68 → κ ≠ 69 → κ ≠ 70 → linA A (i + 1) y z κ j = cdA A κ j := fun κ j h1 h2 h3 => linA_o (by omega) (by omega) (by omega)
  have o7 : ∀ j, linA A (i + 1) y z 7 j = cdA A 7 j := fun j => o 7 j (by decide) (by decide) (by decide)
  have eng : ngA (linA A (i + 1) y z) = ngA A := by unfold ngA; rw [o7]; rfl
  have i6 := a1 6 (by decide) (by decide)
  refine ⟨?_, hV1.congr (fun j => o 64 j (by decide) (by decide) (by decide)) (fun j => o 65 j (by decide) (by decide) (by decide)) (a1 60 (by decide) (by decide)) (a1 61 (by decide) (by decide)) rfl (gle_rf g), ?_, hS.congr (fun κ j h => o κ j (by omega) (by omega) (by omega) |>.trans (by show upA A 7 0 0 κ j = _; rw [upA_ap, if_neg (fun q => by omega)])) (o7 6) (fun n f h => h.congr (by rw [a1 1 (by decide) (by decide)]) rfl (fun _ _ => rfl) (gle_rf g)) (a1 5 (by decide) (by decide)) rfl (gle_rf g), hP.congr (fun j => o 78 j (by decide) (by decide) (by decide)) (o7 28) (a1 1 (by decide) (by decide)) (a1 3 (by decide) (by decide)) (a1 63 (by decide) (by decide)), hD, htg, hwl, ?_, hs⟩
  · unfold RC
    rw [i6, o7, o7, o7, o7, o7, o7, o7, o7, o7]
    exact hC
  · obtain ⟨h1, h2, h3, h4⟩ := hG
    refine ⟨by rw [eng]; exact h1.congr (by rw [a1 1 (by decide) (by decide)]) rfl (fun _ _ => rfl) (gle_rf g), fun j hj => ?_, by rw [eng]; exact h3, by rw [eng]; exact h4⟩
    rw [eng] at hj
    obtain ⟨k1, k2, k3, k4, k5, k6, k7, k8, k9, k10, k11, k12⟩ := h2 j hj
    have b2 : ∀ k, ¬ (k = 3 ∨ k = 4 ∨ k = 5) → I' 2 k (ω.2.1 j) = I 2 k (ω.2.1 j) := fun k hk => a2 k _ (fun q => hk q.2)
    refine ⟨k1, k2, k3, k4, by rw [b2 0 (by omega)]; exact k5, by rw [b2 1 (by omega), o 66 _ (by decide) (by decide) (by decide)]; exact k6, by rw [b2 2 (by omega), o 67 _ (by decide) (by decide) (by decide)]; exact k7, ?_, by rw [b2 7 (by omega), o 71 _ (by decide) (by decide) (by decide)]; exact k9, by rw [b2 8 (by omega), o 72 _ (by decide) (by decide) (by decide)]; exact k10, ?_, ?_⟩
    · by_cases h : j = i
      · rw [h, a3, linA_68]
      · rw [a2 5 _ (fun q => h (h3 j i hj hi q.1)), linA_o (by omega) (by omega) (by omega)]
        exact k8
    · rw [hmn]
      by_cases h : j = i
      · rw [h]
        exact fun _ => a4
      · rw [if_neg (by omega), a2 3 _ (fun q => h (h3 j i hj hi q.1)), a2 4 _ (fun q => h (h3 j i hj hi q.1)), linA_o (κ := 70) (by omega) (by omega) (by omega), linA_o (κ := 69) (by omega) (by omega) (by omega)]
        exact k11
    · intro q hq
      rw [hmn] at hq
      by_cases h : j = i
      · rw [h] at hq ⊢
        rw [if_pos rfl] at hq
        exact a6 q (by omega)
      · rw [if_neg (by omega)] at hq
        have h10 := (hw.2.2.2.1 (j + 1)).2
        rw [a5 _ _ (fun e => h (h4 j i hj hi e)), lat_cg (A := A) q (fun k hk1 hk2 => linA_o (by omega) (by omega) (by omega))]
        exact k12 q hq
  · have e28 := o7 28
    have e : ln (linA A (i + 1) y z) = ln A := by unfold ln; rw [e28]; rfl
    unfold LnA
    rw [e28, e]
    exact hl
theorem Inv.lin (hV : Inv ω I A st) (hw : WfA A) (h21 : A 7 21 = 0) {i : Nat} (hi : i < ngA A) (hm : mnA A (i + 1) < 10) {yn : Nat} (hy : y = nI yn) (hy1 : 1 ≤ yn) (hy2 : yn ≤ 100) (hf : fitA A (i + 1) y z) (h6 : I' 6 15 (ω.1 0) = I 6 15 (ω.1 0)) (h9 : ∀ b, I' 2 9 b = I 2 9 b) : Inv ω I' (linA A (i + 1) y z) st := by
  obtain ⟨hwl, hmn⟩ := linA_wf (y := y) (z := z) hw hm
  have o : ∀ κ j, κ ≠ 68 → κ ≠ 69 → κ ≠ 70 → linA A (i + 1) y z κ j = cdA A κ j := fun κ j h1 h2 h3 => linA_o (by omega) (by omega) (by omega)
  have o7 : ∀ j, linA A (i + 1) y z 7 j = cdA A 7 j := fun j => o 7 j (by decide) (by decide) (by decide)
  have eng : ngA (linA A (i + 1) y z) = ngA A := by unfold ngA; rw [o7]; rfl
  have hIc := hV.cd
  obtain ⟨hp, hv, hS, hT, -, -, -⟩ := hIc
  refine hV.cd.off h21 ⟨?_, fun gi h1 h2 k hk => ?_, fun gi h1 h2 h3 => ?_, ?_⟩ (fun j hj => ?_) ⟨⟨fun s h1 h2 => ?_, fun t s h1 h2 h3 h4 h5 => ?_⟩, fun gi h1 h2 => ?_⟩ (hT.kp h6 h9 eng) (fun j h => o7 j)
  · rw [o7, o7, o7]
    exact hp.1
  · rw [eng] at h2
    rw [hmn] at hk
    have h10 := (hw.2.2.2.1 gi).2
    by_cases h : gi = i + 1
    · rw [if_pos h] at hk
      by_cases e : k = mnA A (i + 1)
      · rw [h, e, linA_69]
        exact ⟨yn, hy, hy1, hy2⟩
      · rw [linA_o (by omega) (by omega) (by omega)]
        exact hp.2.1 gi h1 h2 k (by show k < mnA A gi; rw [h]; omega)
    · rw [if_neg h] at hk
      rw [linA_o (by omega) (by omega) (by omega)]
      exact hp.2.1 gi h1 h2 k hk
  · rw [eng] at h2
    rw [o 66 _ (by decide) (by decide) (by decide)] at h3
    rw [o 72 _ (by decide) (by decide) (by decide)]
    exact hp.2.2.1 gi h1 h2 h3
  · intro a b h1 h2 h3 h4 h5 h6 h7
    rw [eng] at h2 h4
    rw [o 66 _ (by decide) (by decide) (by decide)] at h5
    rw [o 66 _ (by decide) (by decide) (by decide), o 66 _ (by decide) (by decide) (by decide)] at h6
    rw [o 67 _ (by decide) (by decide) (by decide), o 67 _ (by decide) (by decide) (by decide)] at h7
    exact hp.2.2.2 a b h1 h2 h3 h4 h5 h6 h7
  · have enc : ncA (linA A (i + 1) y z) = ncA A := by unfold ncA; rw [o7]; rfl
    rw [enc] at hj
    rw [o 64 _ (by decide) (by decide) (by decide), o 65 _ (by decide) (by decide) (by decide)]
    exact hv j hj
  · have ens : nsA (linA A (i + 1) y z) = nsA A := by unfold nsA; rw [o7]; rfl
    rw [ens] at h2
    rw [o 66 _ (by decide) (by decide) (by decide), o 74 _ (by decide) (by decide) (by decide)]
    exact hS.1.1 s h1 h2
  · have ens : nsA (linA A (i + 1) y z) = nsA A := by unfold nsA; rw [o7]; rfl
    rw [ens] at h2 h4
    rw [o 75 _ (by decide) (by decide) (by decide)] at h5
    rw [o 67 _ (by decide) (by decide) (by decide), o 67 _ (by decide) (by decide) (by decide), o 74 _ (by decide) (by decide) (by decide), o 74 _ (by decide) (by decide) (by decide)]
    exact hS.1.2 t s h1 h2 h3 h4 h5
  · rw [eng] at h2
    obtain ⟨hk, hab⟩ := hS.2 gi h1 h2
    rw [inb, o 66 _ (by decide) (by decide) (by decide), hmn, o7, o7]
    refine ⟨hk, fun q1 q2 => ?_⟩
    by_cases h : gi = i + 1
    · subst h
      by_cases h0 : mnA A (i + 1) = 0
      · have h68 : A 68 (i + 1) = 0 := by rw [(hw.2.2.2.1 (i + 1)).1, h0]; rfl
        rw [linA_70 h68] at q2
        have hz : z = 0 := by
          by_cases c : z = 0
          · exact c
          · rw [if_neg c] at q2; exact absurd rfl q2
        have e69 : linA A (i + 1) y z 69 (10 * (i + 1)) = y := by
          have := linA_69 (A := A) (gi := i + 1) (n := y) (rel := z)
          rw [h0] at this
          exact this
        have e8 : f8 A (i + 1) y z = y := by rw [f8_0 h68, if_pos hz]
        rw [e69]
        unfold fitA at hf
        rw [e8] at hf
        constructor
        · intro q
          have q' : inb A (i + 1) := q
          rw [if_neg (fun w => by rcases w with w | w <;> rcases q' with q' | q' | q' <;> rw [w] at q' <;> exact absurd q' (by decide)), if_pos q'] at hf
          exact hf.1
        · intro q
          have q' : A 66 (i + 1) = 5 := q
          rw [if_neg (fun w => by rcases w with w | w <;> rw [w] at q' <;> exact absurd q' (by decide)), if_neg (fun w => by rcases w with w | w | w <;> rw [w] at q' <;> exact absurd q' (by decide))] at hf
          exact hf.1.resolve_left (fun w => by rw [w] at q'; exact absurd q' (by decide))
      · have h68 : ¬ A 68 (i + 1) = 0 := by rw [(hw.2.2.2.1 (i + 1)).1]; exact nIz h0 (by omega)
        rw [linA_70n h68] at q2
        rw [linA_o (κ := 69) (by omega) (by omega) (by omega)]
        exact hab (by show 0 < mnA A (i + 1); omega) q2
    · rw [if_neg h] at q1
      rw [linA_o (κ := 70) (by omega) (by omega) (by omega)] at q2
      rw [linA_o (κ := 69) (by omega) (by omega) (by omega)]
      exact hab q1 q2
end
