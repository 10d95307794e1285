-- ===== group =====
/-- nothing is told yet of groups that aren't there -/
def Z0 (A : Nat → Nat → Int32) : Prop := ∀ j, ngA A < j → A 68 j = 0 ∧ A 71 j = 0 ∧ A 72 j = 0
/-- the two lists of the object have arrays of their own -/
def Dg (ω : Wd) (g : jG) (A : Nat → Nat → Int32) : Prop := (ω.2.2.2.2.1 = ω.2.2.2.2.2.2.1 → jt g ω.2.2.2.2.1 = some 95) ∧ (ω.2.2.2.2.2.1 ≤ 10 ∨ ω.2.2.2.2.2.1 ≤ 2 * ngA A) ∧ (ω.2.2.2.2.2.2.2 ≤ 10 ∨ ω.2.2.2.2.2.2.2 ≤ 2 * nsA A)
def gI (I : tI) (t : Nat) (n k l : Int32) : tI := ups (ups (ups (ups (ups (ups (upc (ups (ups (ups (upc I 2 t (fun _ => 0)) 2 3 t 0) 2 4 t 0) 2 5 t 0) 62 (t + 1) (fun _ => 0)) 2 7 t 0) 2 8 t 0) 2 9 t 0) 2 0 t n) 2 1 t k) 2 2 t l
def gJ (J : tJ) (t : Nat) : tJ := upc (upc J 2 t (fun _ => 0)) 62 (t + 1) (fun _ => 0)
def gP (P : tP) (t : Nat) : tP := ups (upc (upc P 2 t (fun _ => none)) 62 (t + 1) (fun _ => none)) 2 6 t (some (t + 1))
theorem gI_old {I : tI} {t : Nat} {n k l : Int32} {κ j b : Nat} (h2 : ¬ (κ = 2 ∧ b = t)) (h62 : ¬ (κ = 62 ∧ b = t + 1)) : gI I t n k l κ j b = I κ j b := by
  have a : ∀ (f : tI) (j' : Nat) (v : Int32), ups f 2 j' t v κ j b = f κ j b := fun f j' v => by rw [ups_ap, if_neg (fun q => h2 ⟨q.1, q.2.2⟩)]
  unfold gI
  rw [a, a, a, a, a, a, upc_ap, if_neg (fun q => h62 q), a, a, a, upc_ap, if_neg (fun q => h2 q)]
theorem gI_new {I : tI} {t : Nat} {n k l : Int32} {j : Nat} : gI I t n k l 2 j t = if j = 0 then n else if j = 1 then k else if j = 2 then l else 0 := by
  unfold gI
  simp only [ups_ap, upc_ap, true_and, and_true]
  by_cases h0 : j = 0
  · subst h0; simp
  by_cases h1 : j = 1
  · subst h1; simp
  by_cases h2 : j = 2
  · subst h2; simp
  · simp [h0, h1, h2]
theorem gI_arr {I : tI} {t : Nat} {n k l : Int32} {j : Nat} : gI I t n k l 62 j (t + 1) = 0 := by
  unfold gI
  simp only [ups_ap, upc_ap]
  simp
theorem fndN_zero {A : Nat → Nat → Int32} {kd lv : Int32} : ∀ n, fndN A kd lv n = 0 → ∀ j, 1 ≤ j → j ≤ n → ¬ (A 66 j = kd ∧ A 67 j = lv)
  | 0, _, j, h1, h2, _ => by omega
  | n + 1, h, j, h1, h2, q => by
    unfold fndN at h
    by_cases c : A 66 (n + 1) = kd ∧ A 67 (n + 1) = lv
    · rw [if_pos c] at h; omega
    · rw [if_neg c] at h
      by_cases e : j = n + 1
      · rw [e] at q; exact c q
      · exact fndN_zero n h j h1 (by omega) q
section
variable {A : Nat → Nat → Int32} {kd lv : Int32}
theorem grpA_o {κ j : Nat} (h7 : ¬ (κ = 7 ∧ j = 5)) (h66 : ¬ (κ = 66 ∧ j = ngA A + 1)) (h67 : ¬ (κ = 67 ∧ j = ngA A + 1)) : grpA A kd lv κ j = cdA A κ j := by
  unfold grpA
  rw [upA_ap, if_neg h67, upA_ap, if_neg h66, upA_ap, if_neg h7]
theorem grpA_66 : grpA A kd lv 66 (ngA A + 1) = kd := by
  unfold grpA
  rw [upA_ap, if_neg (fun q => absurd q.1 (by decide)), upA_ap, if_pos ⟨rfl, rfl⟩]
theorem grpA_67 : grpA A kd lv 67 (ngA A + 1) = lv := by
  unfold grpA
  rw [upA_ap, if_pos ⟨rfl, rfl⟩]
theorem grpA_5 : grpA A kd lv 7 5 = nI (ngA A + 1) := by
  unfold grpA
  rw [upA_ap, if_neg (fun q => absurd q.1 (by decide)), upA_ap, if_neg (fun q => absurd q.1 (by decide)), upA_ap, if_pos ⟨rfl, rfl⟩]
theorem grpA_ng (h : ngA A < 20) : ngA (grpA A kd lv) = ngA A + 1 := by
  show (grpA A kd lv 7 5).toNatClampNeg = _
  rw [grpA_5]
  exact nI_clamp (by omega)
theorem grpA_wf (hw : WfA A) (h : ngA A < 20) : WfA (grpA A kd lv) := by
  have o7 : ∀ j, j ≠ 5 → grpA A kd lv 7 j = cdA A 7 j := fun j hj => grpA_o (by omega) (by omega) (by omega)
  have ens : nsA (grpA A kd lv) = nsA A := by unfold nsA; rw [o7 6 (by decide)]; rfl
  have enc : ncA (grpA A kd lv) = ncA A := by unfold ncA; rw [o7 4 (by decide)]; rfl
  have emn : ∀ i, mnA (grpA A kd lv) i = mnA A i := fun i => by unfold mnA; rw [grpA_o (by omega) (by omega) (by omega)]; rfl
  refine ⟨⟨by rw [grpA_ng h]; exact grpA_5, by rw [grpA_ng h]; omega⟩, by rw [ens, o7 6 (by decide)]; exact hw.2.1, by rw [enc, o7 4 (by decide)]; exact hw.2.2.1, fun i => by rw [emn, grpA_o (by omega) (by omega) (by omega)]; exact hw.2.2.2.1 i, fun s h1 h2 => ?_⟩
  rw [ens] at h2
  rw [grpA_ng h, grpA_o (by omega) (by omega) (by omega)]
  have := hw.2.2.2.2 s h1 h2
  exact ⟨this.1, this.2.1, Nat.le_succ_of_le this.2.2⟩
theorem grpA_inv {ω ω' : Wd} {I I' : tI} {st : Nat} (hw : WfA A) (hV : Inv ω I A st) (hZ : Z0 A) (h21 : A 7 21 = 0) (h : ngA A < 20) (hk : kd7 kd) (hu : ¬ (¬ kd = 3 ∧ ¬ gF A kd lv = 0)) (hT : RT ω' I' (grpA A kd lv) st) : Inv ω' I' (grpA A kd lv) st ∧ Z0 (grpA A kd lv) := by
  have o7 : ∀ j, j ≠ 5 → grpA A kd lv 7 j = cdA A 7 j := fun j hj => grpA_o (by omega) (by omega) (by omega)
  have o : ∀ κ j, κ ≠ 7 → κ ≠ 66 → κ ≠ 67 → grpA A kd lv κ j = cdA A κ j := fun κ j h1 h2 h3 => grpA_o (by omega) (by omega) (by omega)
  have emn : ∀ i, mnA (grpA A kd lv) i = mnA A i := fun i => by unfold mnA; rw [o 68 i (by decide) (by decide) (by decide)]; rfl
  have old : ∀ j, j ≤ ngA A → grpA A kd lv 66 j = A 66 j ∧ grpA A kd lv 67 j = A 67 j := fun j hj => ⟨grpA_o (by omega) (by omega) (by omega), grpA_o (by omega) (by omega) (by omega)⟩
  obtain ⟨hp, hv, hS, -, ⟨n, hn1, hn2, hn3, hn4⟩, -, -⟩ := hV
  have hng := grpA_ng (kd := kd) (lv := lv) h
  have hz := hZ (ngA A + 1) (by omega)
  have hm0 : mnA A (ngA A + 1) = 0 := by unfold mnA; rw [hz.1]; rfl
  have e21 : grpA A kd lv 7 21 = 0 := (o7 21 (by decide)).trans h21
  have eln : ln (grpA A kd lv) = ln A := by unfold ln; rw [o7 28 (by decide)]; rfl
  refine ⟨⟨⟨by rw [o7 1 (by decide), o7 2 (by decide), o7 3 (by decide)]; exact hp.1, fun gi h1 h2 k hk => ?_, fun gi h1 h2 h3 => ?_, fun a b h1 h2 h3 h4 h5 h6 h7 => ?_⟩, fun j hj => ?_, ⟨⟨fun s h1 h2 => ?_, fun t s h1 h2 h3 h4 h5 => ?_⟩, fun gi h1 h2 => ?_⟩, hT, ⟨n, by rw [o7 22 (by decide)]; exact hn1, hn2, by rw [eln]; exact hn3, fun q => absurd e21 q⟩, fun q => absurd e21 q, fun q => absurd e21 q⟩, fun j hj => ?_⟩
  · rw [hng] at h2
    rw [emn] at hk
    by_cases e : gi = ngA A + 1
    · rw [e, hm0] at hk; omega
    · rw [o 69 _ (by decide) (by decide) (by decide)]
      exact hp.2.1 gi h1 (by omega) k hk
  · rw [hng] at h2
    rw [o 72 _ (by decide) (by decide) (by decide)]
    by_cases e : gi = ngA A + 1
    · rw [e]; exact hz.2.2
    · rw [(old gi (by omega)).1] at h3
      exact hp.2.2.1 gi h1 (by omega) h3
  · rw [hng] at h2 h4
    have hno : ¬ kd = 3 → ∀ j, 1 ≤ j → j ≤ ngA A → ¬ (A 66 j = kd ∧ A 67 j = lv) := fun h3' => by
      have : gF A kd lv = 0 := by
        by_cases c : gF A kd lv = 0
        · exact c
        · exact absurd ⟨h3', c⟩ hu
      exact fndN_zero _ this
    by_cases e1 : a = ngA A + 1
    · by_cases e2 : b = ngA A + 1
      · omega
      · rw [e1, grpA_66] at h5 h6
        rw [e1, grpA_67] at h7
        rw [(old b (by omega)).1] at h6
        rw [(old b (by omega)).2] at h7
        exact absurd ⟨h6.symm, h7.symm⟩ (hno h5 b h3 (by omega))
    · rw [(old a (by omega)).1] at h5 h6
      rw [(old a (by omega)).2] at h7
      by_cases e2 : b = ngA A + 1
      · rw [e2, grpA_66] at h6
        rw [e2, grpA_67] at h7
        exact absurd ⟨h6, h7⟩ (hno (by rw [← h6]; exact h5) a h1 (by omega))
      · rw [(old b (by omega)).1] at h6
        rw [(old b (by omega)).2] at h7
        exact hp.2.2.2 a b h1 (by omega) h3 (by omega) h5 h6 h7
  · have enc : ncA (grpA A kd lv) = ncA A := by unfold ncA; rw [o7 4 (by decide)]; rfl
    rw [enc] at hj
    rw [o 64 _ (by decide) (by decide) (by decide), o 65 _ (by decide) (by decide) (by decide)]
    exact hv j hj
  · have ens : nsA (grpA A kd lv) = nsA A := by unfold nsA; rw [o7 6 (by decide)]; rfl
    rw [ens] at h2
    have hs := hw.2.2.2.2 s h1 h2
    rw [o 74 _ (by decide) (by decide) (by decide)]
    show grpA A kd lv 66 (A 74 s).toNatClampNeg = 4
    rw [(old _ hs.2.2).1]
    exact hS.1.1 s h1 h2
  · have ens : nsA (grpA A kd lv) = nsA A := by unfold nsA; rw [o7 6 (by decide)]; rfl
    rw [ens] at h2 h4
    have ht := hw.2.2.2.2 t h1 h2
    have hs := hw.2.2.2.2 s h3 h4
    rw [o 75 _ (by decide) (by decide) (by decide)] at h5
    rw [o 74 _ (by decide) (by decide) (by decide), o 74 _ (by decide) (by decide) (by decide)]
    show grpA A kd lv 67 (A 74 t).toNatClampNeg < grpA A kd lv 67 (A 74 s).toNatClampNeg
    rw [(old _ ht.2.2).2, (old _ hs.2.2).2]
    exact hS.1.2 t s h1 h2 h3 h4 h5
  · rw [hng] at h2
    rw [emn]
    by_cases e : gi = ngA A + 1
    · rw [e, grpA_66, hm0]
      exact ⟨hk, fun q => by omega⟩
    · rw [inb, (old gi (by omega)).1, o 70 _ (by decide) (by decide) (by decide), o 69 _ (by decide) (by decide) (by decide), o7 2 (by decide), o7 3 (by decide)]
      exact hS.2 gi h1 (by omega)
  · rw [hng] at hj
    rw [o 68 _ (by decide) (by decide) (by decide), o 71 _ (by decide) (by decide) (by decide), o 72 _ (by decide) (by decide) (by decide)]
    exact hZ j (by omega)
end
