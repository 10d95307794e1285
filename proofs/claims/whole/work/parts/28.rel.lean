-- ===== the class's cells and the state A, T =====
theorem Lst.congr {sv : Nat → Value} {g g' : jG} {I I' : tI} {P P' : tP} {a e c n : Nat} {f : Nat → Nat} (h : Lst sv g I P a e c n f) (h1 : I' 1 2 a = I 1 2 a) (h2 : P' 1 1 a = P 1 1 a) (h3 : ∀ i, i < n → P' 53 i e = P 53 i e) (hg : ∀ b κ, jt g b = some κ → jt g' b = some κ ∧ jn g' b = jn g b) : Lst sv g' I' P' a e c n f := by
  obtain ⟨ha, he, hn, hc, hnc, hcb, hk, hf⟩ := h
  have hje : ∃ κ, jt g e = some κ := by
    rcases hk with ⟨-, h, -⟩ | ⟨-, h⟩
    · exact ⟨_, h⟩
    · exact ⟨_, h⟩
  obtain ⟨κ, hκ⟩ := hje
  refine ⟨(hg _ _ ha).1, by rw [h2]; exact he, by rw [h1]; exact hn, by rw [(hg _ _ hκ).2]; exact hc, hnc, hcb, ?_, fun i hi => by rw [h3 i hi]; exact hf i hi⟩
  rcases hk with ⟨h4, h5, h6⟩ | ⟨h4, h5⟩
  · exact Or.inl ⟨h4, (hg _ _ h5).1, h6⟩
  · exact Or.inr ⟨h4, (hg _ _ h5).1⟩
/-- tags are kept -/
def gle (g g' : jG) : Prop := ∀ b κ, jt g b = some κ → jt g' b = some κ ∧ jn g' b = jn g b
theorem gle_rf (g : jG) : gle g g := fun _ _ h => ⟨h, rfl⟩
theorem gle.tr {g g' g'' : jG} (h : gle g g') (h2 : gle g' g'') : gle g g'' := fun b κ hb => ⟨(h2 b κ (h b κ hb).1).1, ((h2 b κ (h b κ hb).1).2).trans (h b κ hb).2⟩
theorem gle_new {g : jG} {t κ n : Nat} (htg : ∀ b κ, jt g b = some κ → b < t) : gle g (jgset g t (κ, n)) := fun b κ' hb => by
  have := htg _ _ hb
  exact ⟨by rw [jt_set, if_neg (by omega)]; exact hb, by rw [jn_set, if_neg (by omega)]⟩
/-- addresses that never change: 0 the object, 1 groups, 2 sums, 3 values, 4 values before, 5 printed, 6 sheets -/
abbrev Wd : Type := (Nat → Nat) × (Nat → Nat) × (Nat → Nat) × (Nat → Nat) × Nat × Nat × Nat × Nat
def lt0 (A : Nat → Nat → Int32) (gi : Nat) : Nat → Int32 := lat A gi 0
theorem lat_add (A : Nat → Nat → Int32) (gi : Nat) (top : Int32) : ∀ k, lat A gi top k = top + lat A gi 0 k
  | 0 => by show top = top + 0; rw [Int32.add_zero]
  | k + 1 => by
    show lat A gi top k + _ = top + (lat A gi 0 k + _)
    rw [lat_add A gi top k, Int32.add_assoc]
/-- a group's cells: G, its array b, its number gi -/
def GrpAt (g : jG) (I : tI) (P : tP) (A : Nat → Nat → Int32) (G b gi : Nat) : Prop := jt g G = some 2 ∧ P 2 6 G = some b ∧ jt g b = some 62 ∧ jn g b = 10 ∧ I 2 0 G = nI gi ∧ I 2 1 G = A 66 gi ∧ I 2 2 G = A 67 gi ∧ I 2 5 G = A 68 gi ∧ (I 2 7 G = 0 ↔ A 71 gi = 0) ∧ I 2 8 G = A 72 gi ∧ (0 < mnA A gi → I 2 3 G = A 69 (10 * gi) ∧ (I 2 4 G = 0 ↔ ¬ A 70 gi = 0)) ∧ (∀ j, j < mnA A gi ∨ j = 0 → I 62 j b = lat A gi 0 j)
def RG (sv : Nat → Value) (ω : Wd) (g : jG) (I : tI) (P : tP) (A : Nat → Nat → Int32) : Prop := Lst sv g I P (ω.1 1) ω.2.2.2.2.1 ω.2.2.2.2.2.1 (ngA A) ω.2.1 ∧ (∀ i, i < ngA A → GrpAt g I P A (ω.2.1 i) (ω.2.2.1 i) (i + 1)) ∧ (∀ i j, i < ngA A → j < ngA A → ω.2.1 i = ω.2.1 j → i = j) ∧ (∀ i j, i < ngA A → j < ngA A → ω.2.2.1 i = ω.2.2.1 j → i = j)
def SumAt (g : jG) (I : tI) (J : tJ) (A : Nat → Nat → Int32) (T : Nat → Int64) (S s : Nat) : Prop := jt g S = some 5 ∧ I 5 0 S = A 74 s ∧ I 5 1 S = A 67 (A 74 s).toNatClampNeg ∧ I 5 2 S = A 75 s ∧ I 5 3 S = A 76 s ∧ J 5 4 S = T s
def RS (sv : Nat → Value) (ω : Wd) (g : jG) (I : tI) (J : tJ) (P : tP) (A : Nat → Nat → Int32) (T : Nat → Int64) : Prop := Lst sv g I P (ω.1 2) ω.2.2.2.2.2.2.1 ω.2.2.2.2.2.2.2 (nsA A) ω.2.2.2.1 ∧ (∀ i, i < nsA A → SumAt g I J A T (ω.2.2.2.1 i) (i + 1)) ∧ (∀ i j, i < nsA A → j < nsA A → ω.2.2.2.1 i = ω.2.2.2.1 j → i = j)
def RV (ω : Wd) (g : jG) (I : tI) (P : tP) (A : Nat → Nat → Int32) : Prop := P 6 6 (ω.1 0) = some (ω.1 3) ∧ P 6 7 (ω.1 0) = some (ω.1 4) ∧ jt g (ω.1 3) = some 60 ∧ jn g (ω.1 3) = 6 ∧ jt g (ω.1 4) = some 61 ∧ jn g (ω.1 4) = 6 ∧ (∀ k, k < 6 → I 60 k (ω.1 3) = A 64 k) ∧ (∀ k, k < 6 → I 61 k (ω.1 4) = A 65 k)
def RC (ω : Wd) (g : jG) (I : tI) (P : tP) (A : Nat → Nat → Int32) : Prop := jt g (ω.1 0) = some 6 ∧ P 6 3 (ω.1 0) = some (ω.1 1) ∧ P 6 4 (ω.1 0) = some (ω.1 2) ∧ P 6 8 (ω.1 0) = some (ω.1 5) ∧ I 6 0 (ω.1 0) = A 7 1 ∧ I 6 1 (ω.1 0) = A 7 2 ∧ I 6 2 (ω.1 0) = A 7 3 ∧ I 6 5 (ω.1 0) = A 7 4 ∧ I 6 9 (ω.1 0) = A 7 21 ∧ I 6 10 (ω.1 0) = A 7 24 ∧ I 6 11 (ω.1 0) = A 7 25 ∧ I 6 13 (ω.1 0) = A 7 22 ∧ I 6 14 (ω.1 0) = A 7 23
/-- sheets: their number nsh, the addresses ha of the sheets and hb of their cells; tb, ub: cells and places made for them -/
def RP (sv : Nat → Value) (ω : Wd) (g : jG) (I : tI) (P : tP) (A : Nat → Nat → Int32) (tb ub : Nat) : Prop := jt g (ω.1 5) = some 3 ∧ P 3 0 (ω.1 5) = some (ω.1 6) ∧ I 3 1 (ω.1 5) = A 7 28 ∧ ∃ (he hc nsh : Nat) (ha hb : Nat → Nat), Lst sv g I P (ω.1 6) he hc nsh ha ∧ (hc ≤ 10 ∨ hc ≤ 2 * nsh) ∧ (∀ q, q < nsh → jt g (ha q) = some 4 ∧ P 4 0 (ha q) = some (hb q) ∧ jt g (hb q) = some 63 ∧ jn g (hb q) = 320) ∧ (∀ q r, q < nsh → r < nsh → hb q = hb r → q = r) ∧ nsh ≤ 1564 ∧ ln A ≤ 64 * nsh ∧ (∀ i, i < ln A → ∀ c, c < 5 → I 63 (i % 64 * 5 + c) (hb (i / 64)) = A 78 (5 * i + c)) ∧ tb = 3 * nsh ∧ ub = 4 * hc + 321 * nsh ∧ (he = ω.2.2.2.2.1 → jt g he = some 95) ∧ (he = ω.2.2.2.2.2.2.1 → jt g he = some 95)
/-- indicated details: which were printed in this stretch -/
def RT (ω : Wd) (I : tI) (A : Nat → Nat → Int32) (st : Nat) : Prop := I 6 15 (ω.1 0) = nI st ∧ st < 1000000 ∧ ∀ i, i < ngA A → ∃ s', I 2 9 (ω.2.1 i) = nI s' ∧ s' ≤ st
def RI (ω : Wd) (I : tI) (A : Nat → Nat → Int32) : Prop := ∀ i, i < ngA A → A 66 (i + 1) = 3 → (I 2 9 (ω.2.1 i) = I 6 15 (ω.1 0) ↔ ¬ A 73 (i + 1) = 0)
/-- the three lists are three, and so are their arrays -/
def RD (ω : Wd) : Prop := ω.1 1 ≠ ω.1 2 ∧ ω.1 1 ≠ ω.1 6 ∧ ω.1 2 ≠ ω.1 6
/-- what printing a line leaves -/
def PFr (sv : Nat → Value) (ω : Wd) (g g' : jG) (I I' : tI) (J J' : tJ) (P P' : tP) : Prop := gle g g' ∧ (∀ κ, κ ≠ 1 → κ ≠ 3 → κ ≠ 4 → κ ≠ 53 → κ ≠ 63 → I' κ = I κ ∧ J' κ = J κ ∧ P' κ = P κ) ∧ (∀ n f, Lst sv g I P (ω.1 1) ω.2.2.2.2.1 ω.2.2.2.2.2.1 n f → Lst sv g' I' P' (ω.1 1) ω.2.2.2.2.1 ω.2.2.2.2.2.1 n f) ∧ (∀ n f, Lst sv g I P (ω.1 2) ω.2.2.2.2.2.2.1 ω.2.2.2.2.2.2.2 n f → Lst sv g' I' P' (ω.1 2) ω.2.2.2.2.2.2.1 ω.2.2.2.2.2.2.2 n f)
theorem PFr_rf {sv : Nat → Value} {ω : Wd} {g : jG} {I : tI} {J : tJ} {P : tP} : PFr sv ω g g I I J J P P := ⟨gle_rf g, fun _ _ _ _ _ _ => ⟨rfl, rfl, rfl⟩, fun _ _ h => h, fun _ _ h => h⟩
theorem PFr.tr {sv : Nat → Value} {ω : Wd} {g g' g'' : jG} {I I' I'' : tI} {J J' J'' : tJ} {P P' P'' : tP} (h : PFr sv ω g g' I I' J J' P P') (h2 : PFr sv ω g' g'' I' I'' J' J'' P' P'') : PFr sv ω g g'' I I'' J J'' P P'' := by
  refine ⟨h.1.tr h2.1, fun κ a1 a2 a3 a4 a5 => ?_, fun n f hl => h2.2.2.1 n f (h.2.2.1 n f hl), fun n f hl => h2.2.2.2 n f (h.2.2.2 n f hl)⟩
  obtain ⟨b1, b2, b3⟩ := h.2.1 κ a1 a2 a3 a4 a5
  obtain ⟨c1, c2, c3⟩ := h2.2.1 κ a1 a2 a3 a4 a5
  exact ⟨c1.trans b1, c2.trans b2, c3.trans b3⟩
theorem ups_o {α : Type} {f : Nat → Nat → Nat → α} {κ k a κ' : Nat} {v : α} (h : κ' ≠ κ) : ups f κ k a v κ' = f κ' := by
  funext k' a'
  exact if_neg (fun q => h q.1)
theorem upc_o {α : Type} {f : Nat → Nat → Nat → α} {κ a κ' : Nat} {v : Nat → α} (h : κ' ≠ κ) : upc f κ a v κ' = f κ' := by
  funext k' a'
  exact if_neg (fun q => h q.1)
