-- ===== groups that aren't there yet stay untold =====
def zk (A B : Nat → Nat → Int32) : Prop := (∀ j, B 72 j = A 72 j) ∧ ∀ j, A 71 j = 0 → B 71 j = 0
theorem zk_rf (A : Nat → Nat → Int32) : zk A A := ⟨fun _ => rfl, fun _ h => h⟩
theorem zk.tr {A B C : Nat → Nat → Int32} (h : zk A B) (h2 : zk B C) : zk A C := ⟨fun j => (h2.1 j).trans (h.1 j), fun j q => h2.2 j (h.2 j q)⟩
theorem zk_up {A B : Nat → Nat → Int32} {κ j : Nat} {v : Int32} (h : zk A B) (h1 : κ ≠ 71) (h2 : κ ≠ 72) : zk A (upA B κ j v) := ⟨fun i => by rw [upA_ap, if_neg (fun q => h2 q.1.symm)]; exact h.1 i, fun i q => by rw [upA_ap, if_neg (fun q => h1 q.1.symm)]; exact h.2 i q⟩
theorem putA_zk {A B : Nat → Nat → Int32} {gi : Nat} {k a v : Int32} (h : zk A B) : zk A (putA B gi k a v) := by
  unfold putA
  exact zk_up (zk_up (zk_up (zk_up (zk_up (zk_up (zk_up h (by decide) (by decide)) (by decide) (by decide)) (by decide) (by decide)) (by decide) (by decide)) (by decide) (by decide)) (by decide) (by decide)) (by decide) (by decide)
theorem pAllA_zk {A : Nat → Nat → Int32} {gi : Nat} {top v : Int32} : ∀ k, zk A (pAllA A gi top v k)
  | 0 => zk_rf A
  | k + 1 => putA_zk (pAllA_zk k)
theorem onA_zk (A : Nat → Nat → Int32) (gi : Nat) : zk A (onA A gi) := ⟨fun i => by unfold onA; rw [upA_ap, if_neg (fun q => absurd q.1 (by decide))], fun i q => by
  unfold onA
  rw [upA_ap]
  by_cases c : (71 : Nat) = 71 ∧ i = gi
  · rw [if_pos c]
  · rw [if_neg c]; exact q⟩
theorem turnA_zk {A : Nat → Nat → Int32} {gi : Nat} {F : (Nat → Nat → Int32) → Nat → Nat → Int32} (h : ∀ B, zk A B → zk A (F B)) : zk A (turnA A gi F) := by
  unfold turnA
  split
  · exact zk_rf A
  · split
    · exact h _ (onA_zk A gi)
    · exact onA_zk A gi
theorem putAllA_zk {A : Nat → Nat → Int32} {gi : Nat} {top v : Int32} : zk A (putAllA A gi top v) := pAllA_zk _
theorem putFromA_zk {A : Nat → Nat → Int32} {gi : Nat} {f v : Int32} : zk A (putFromA A gi f v) := putAllA_zk
theorem frs_zk (A : Nat → Nat → Int32) : ∀ n, zk A (frs A n)
  | 0 => zk_rf A
  | n + 1 => zk_up (frs_zk A n) (by decide) (by decide)
theorem freshA_zk (A : Nat → Nat → Int32) : zk A (freshA A) := frs_zk A 21
theorem pageA_zk (A : Nat → Nat → Int32) : zk A (pageA A) := zk_up (zk_up (zk_rf A) (by decide) (by decide)) (by decide) (by decide)
theorem aloneA_zk (A : Nat → Nat → Int32) (kd : Int32) : zk A (aloneA A kd) := turnA_zk (fun B h => h.tr ((pageA_zk B).tr putFromA_zk))
theorem overA_zk (A : Nat → Nat → Int32) : zk A (overA A) := turnA_zk (fun B h => h.tr putFromA_zk)
theorem beg0_zk (A : Nat → Nat → Int32) : zk A (freshA (upA (pageA A) 7 26 0)) := (zk_up (pageA_zk A) (by decide) (by decide)).tr (freshA_zk _)
theorem beginA_zk (A : Nat → Nat → Int32) : zk A (beginA A) := (beg0_zk A).tr (turnA_zk (fun B h => h.tr putFromA_zk))
theorem roomA_zk (A : Nat → Nat → Int32) (gi : Nat) : zk A (roomA A gi) := by
  unfold roomA
  split
  · exact (overA_zk A).tr (beginA_zk _)
  · exact zk_rf A
theorem tellA_zk (A : Nat → Nat → Int32) (gi : Nat) (v : Int32) : zk A (tellA A gi v) := (zk_up (zk_rf A) (by decide) (by decide)).tr putAllA_zk
theorem bodyA_zk (A : Nat → Nat → Int32) : zk A (bodyA A) := zk_up (zk_rf A) (by decide) (by decide)
theorem inBodyA_zk (A : Nat → Nat → Int32) (gi : Nat) (v : Int32) : zk A (inBodyA A gi v) := turnA_zk (fun B h => h.tr ((roomA_zk B gi).tr ((tellA_zk _ gi v).tr (bodyA_zk _))))
theorem hdA_zk (A : Nat → Nat → Int32) (lo : Nat) : ∀ n, zk A (hdA A lo n)
  | 0 => zk_rf A
  | n + 1 => (hdA_zk A lo n).tr (inBodyA_zk _ _ _)
theorem ftS_zk (A : Nat → Nat → Int32) (T : Nat → Int64) (c : Nat) : ∀ n, zk A (ftS A T c n).1
  | 0 => zk_rf A
  | n + 1 => (ftS_zk A T c n).tr (inBodyA_zk _ _ _)
theorem kpA_zk (A : Nat → Nat → Int32) : ∀ k, zk A (kpA A k)
  | 0 => zk_rf A
  | k + 1 => zk_up (kpA_zk A k) (by decide) (by decide)
theorem genP_zk (A : Nat → Nat → Int32) (T : Nat → Int64) : zk A (genP A T).1 := by
  unfold genP
  split
  · exact ((aloneA_zk A 0).tr (beginA_zk _)).tr (hdA_zk _ _ _)
  · split
    · exact (zk_up (zk_rf A) (by decide) (by decide) : zk A (brkA A)).tr (((ftS_zk _ _ _ _).tr (freshA_zk _)).tr (hdA_zk _ _ _))
    · exact zk_rf A
theorem genA_zk (A : Nat → Nat → Int32) (T : Nat → Int64) (det : Nat) (X : Int64) : zk A (genA A T det X) := (genP_zk A T).tr ((zk_up (kpA_zk _ _) (by decide) (by decide)).tr (inBodyA_zk _ _ _))
theorem cdA_zk (A : Nat → Nat → Int32) : zk A (cdA A) := zk_up (zk_rf A) (by decide) (by decide)
theorem termA_zk (A : Nat → Nat → Int32) (T : Nat → Int64) : zk A (termA A T) := (zk_up (cdA_zk A) (by decide) (by decide)).tr ((ftS_zk _ _ _ _).tr ((overA_zk _).tr (aloneA_zk _ _)))
theorem initA_zk (A : Nat → Nat → Int32) : zk A (initA A) := (zk_up (zk_up (zk_up (zk_up (zk_up (zk_up (zk_up (cdA_zk A) (by decide) (by decide)) (by decide) (by decide)) (by decide) (by decide)) (by decide) (by decide)) (by decide) (by decide)) (by decide) (by decide)) (by decide) (by decide)).tr (freshA_zk _)
theorem termA_fs (A : Nat → Nat → Int32) (T : Nat → Int64) : fs A (termA A T) := (fs_up (cdA_fr A).fs rfl).tr (((ftS_fr _ _ _ _).tr ((overA_fr _).tr (aloneA_fr _ _))).fs)
theorem Z0.kp {A B : Nat → Nat → Int32} (h : Z0 A) (hz : zk A B) (hf : fs A B) : Z0 B := fun j hj => by
  rw [hf.ng] at hj
  have q := h j hj
  exact ⟨(hf 68 j rfl).trans q.1, hz.2 j q.2.1, (hz.1 j).trans q.2.2⟩
theorem Z1.kp {A B : Nat → Nat → Int32} (h : Z1 A) (hf : fs A B) : Z1 B := fun t h1 h2 h3 => by
  rw [hf.ns] at h2
  rw [hf 75 t rfl] at h3 ⊢
  unfold isS
  rw [hf 7 6 rfl]
  exact h t h1 h2 h3
theorem Dg.kp {ω : Wd} {g g' : jG} {A B : Nat → Nat → Int32} (h : Dg ω g A) (hg : gle g g') (hf : fs A B) : Dg ω g' B := ⟨fun e => (hg _ _ (h.1 e)).1, by rw [hf.ng]; exact h.2.1, by rw [hf.ns]; exact h.2.2⟩
/-- what a line, a control, a mark of a group that is there do -/
theorem Z0.at {A B : Nat → Nat → Int32} (h : Z0 A) (hng : ngA B = ngA A) (ho : ∀ κ j, κ = 68 ∨ κ = 71 ∨ κ = 72 → ngA A < j → B κ j = A κ j) : Z0 B := fun j hj => by
  rw [hng] at hj
  rw [ho 68 j (by omega) hj, ho 71 j (by omega) hj, ho 72 j (by omega) hj]
  exact h j hj
theorem Z1.at {A B : Nat → Nat → Int32} (h : Z1 A) (h6 : B 7 6 = A 7 6) (h75 : ∀ j, B 75 j = A 75 j) : Z1 B := fun t h1 h2 h3 => by
  have hns : nsA B = nsA A := by unfold nsA; rw [h6]
  rw [hns] at h2
  rw [h75 t] at h3 ⊢
  unfold isS
  rw [h6]
  exact h t h1 h2 h3
theorem Dg.at {ω : Wd} {g g' : jG} {A B : Nat → Nat → Int32} (h : Dg ω g A) (hg : gle g g') (h5 : B 7 5 = A 7 5) (h6 : B 7 6 = A 7 6) : Dg ω g' B := ⟨fun e => (hg _ _ (h.1 e)).1, by unfold ngA; rw [h5]; exact h.2.1, by unfold nsA; rw [h6]; exact h.2.2⟩
