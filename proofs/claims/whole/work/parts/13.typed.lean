-- ===== memory by types: ints and booleans, longs, references =====
abbrev tI : Type := Nat → Nat → Nat → Int32
abbrev tJ : Type := Nat → Nat → Nat → Int64
abbrev tP : Type := Nat → Nat → Nat → Option Nat
def jsoT (ty : FieldType) : Nat := match ty with
  | .int => 0
  | .boolean => 0
  | .long => 1
  | _ => 2
def jso (κ k : Nat) : Nat := if κ < 50 then jsoT (jty κ k) else match jkt κ with
  | some ty => jsoT ty
  | none => 2
def tV (I : tI) (J : tJ) (P : tP) : jV := fun κ k a => match jso κ k with
  | 0 => .int (I κ k a)
  | 1 => .long (J κ k a)
  | _ => va_rf (P κ k a)
def tv (t u : Nat) (g : jG) (I : tI) (J : tJ) (P : tP) : jM := (t, u, g, tV I J P)
def ups {α : Type} (f : Nat → Nat → Nat → α) (κ k a : Nat) (v : α) : Nat → Nat → Nat → α := fun κ' k' a' => if κ' = κ ∧ k' = k ∧ a' = a then v else f κ' k' a'
/-- a whole cell -/
def upc {α : Type} (f : Nat → Nat → Nat → α) (κ a : Nat) (h : Nat → α) : Nat → Nat → Nat → α := fun κ' k' a' => if κ' = κ ∧ a' = a then h k' else f κ' k' a'
def jt (g : jG) (a : Nat) : Option Nat := (g a).map Prod.fst
def jn (g : jG) (a : Nat) : Nat := ((g a).map Prod.snd).getD 0
theorem ups_ap {α : Type} (f : Nat → Nat → Nat → α) (κ k a : Nat) (v : α) (κ' k' a' : Nat) : ups f κ k a v κ' k' a' = if κ' = κ ∧ k' = k ∧ a' = a then v else f κ' k' a' := rfl
theorem upc_ap {α : Type} (f : Nat → Nat → Nat → α) (κ a : Nat) (h : Nat → α) (κ' k' a' : Nat) : upc f κ a h κ' k' a' = if κ' = κ ∧ a' = a then h k' else f κ' k' a' := rfl
theorem jt_set (g : jG) (a κ n b : Nat) : jt (jgset g a (κ, n)) b = if b = a then some κ else jt g b := by
  unfold jt
  rw [jgset_ap]
  by_cases h : b = a
  · rw [if_pos h, if_pos h]; rfl
  · rw [if_neg h, if_neg h]
theorem jn_set (g : jG) (a κ n b : Nat) : jn (jgset g a (κ, n)) b = if b = a then n else jn g b := by
  unfold jn
  rw [jgset_ap]
  by_cases h : b = a
  · rw [if_pos h, if_pos h]; rfl
  · rw [if_neg h, if_neg h]
theorem jt_of {g : jG} {a κ : Nat} (h : jt g a = some κ) : g a = some (κ, jn g a) := by
  unfold jt at h
  obtain ⟨⟨κ', n⟩, h1, h2⟩ := Option.map_eq_some_iff.mp h
  unfold jn
  rw [h1]
  dsimp only at h2
  rw [h2]
  rfl
theorem tV_i {I : tI} {J : tJ} {P : tP} {κ k a : Nat} (h : jso κ k = 0) : tV I J P κ k a = .int (I κ k a) := by unfold tV; rw [h]; rfl
theorem tV_l {I : tI} {J : tJ} {P : tP} {κ k a : Nat} (h : jso κ k = 1) : tV I J P κ k a = .long (J κ k a) := by unfold tV; rw [h]; rfl
theorem tV_a {I : tI} {J : tJ} {P : tP} {κ k a : Nat} (h : jso κ k = 2) : tV I J P κ k a = va_rf (P κ k a) := by unfold tV; rw [h]; rfl
theorem jset_i {I : tI} {J : tJ} {P : tP} {κ k a : Nat} {x : Int32} (h : jso κ k = 0) : jset (tV I J P) κ k a (.int x) = tV (ups I κ k a x) J P := by
  funext κ' k' a'
  rw [jset_ap]
  by_cases hc : κ' = κ ∧ k' = k ∧ a' = a
  · obtain ⟨rfl, rfl, rfl⟩ := hc
    rw [if_pos ⟨rfl, rfl, rfl⟩, tV_i h, ups_ap, if_pos ⟨rfl, rfl, rfl⟩]
  · rw [if_neg hc]
    unfold tV
    rw [ups_ap, if_neg hc]
theorem jset_l {I : tI} {J : tJ} {P : tP} {κ k a : Nat} {x : Int64} (h : jso κ k = 1) : jset (tV I J P) κ k a (.long x) = tV I (ups J κ k a x) P := by
  funext κ' k' a'
  rw [jset_ap]
  by_cases hc : κ' = κ ∧ k' = k ∧ a' = a
  · obtain ⟨rfl, rfl, rfl⟩ := hc
    rw [if_pos ⟨rfl, rfl, rfl⟩, tV_l h, ups_ap, if_pos ⟨rfl, rfl, rfl⟩]
  · rw [if_neg hc]
    unfold tV
    rw [ups_ap, if_neg hc]
theorem jset_a {I : tI} {J : tJ} {P : tP} {κ k a : Nat} {r : Option Nat} (h : jso κ k = 2) : jset (tV I J P) κ k a (va_rf r) = tV I J (ups P κ k a r) := by
  funext κ' k' a'
  rw [jset_ap]
  by_cases hc : κ' = κ ∧ k' = k ∧ a' = a
  · obtain ⟨rfl, rfl, rfl⟩ := hc
    rw [if_pos ⟨rfl, rfl, rfl⟩, tV_a h, ups_ap, if_pos ⟨rfl, rfl, rfl⟩]
  · rw [if_neg hc]
    unfold tV
    rw [ups_ap, if_neg hc]
/-- what a new cell holds -/
def jdf (κ k : Nat) : Value := match jso κ k with
  | 0 => .int 0
  | 1 => .long 0
  | _ => .null
theorem jput_df {I : tI} {J : tJ} {P : tP} {κ a : Nat} {f : Nat → Value} (h : ∀ k, f k = jdf κ k) : jput (tV I J P) κ a f = tV (upc I κ a (fun _ => 0)) (upc J κ a (fun _ => 0)) (upc P κ a (fun _ => none)) := by
  funext κ' k' a'
  rw [jput_ap]
  by_cases hc : κ' = κ ∧ a' = a
  · obtain ⟨rfl, rfl⟩ := hc
    rw [if_pos ⟨rfl, rfl⟩, h]
    unfold jdf tV
    rw [upc_ap, upc_ap, upc_ap, if_pos ⟨rfl, rfl⟩, if_pos ⟨rfl, rfl⟩, if_pos ⟨rfl, rfl⟩]
    split <;> rfl
  · rw [if_neg hc]
    unfold tV
    rw [upc_ap, upc_ap, upc_ap, if_neg hc, if_neg hc, if_neg hc]
theorem jput_ci {I : tI} {J : tJ} {P : tP} {κ κ0 a a0 sp dp n : Nat} (h : ∀ k, jso κ k = 0) (h0 : ∀ k, jso κ0 k = 0) : jput (tV I J P) κ a (va_cpy (fun k => tV I J P κ0 k a0) (fun k => tV I J P κ k a) sp dp n) = tV (upc I κ a (va_cpy (fun k => I κ0 k a0) (fun k => I κ k a) sp dp n)) J P := by
  funext κ' k' a'
  rw [jput_ap]
  by_cases hc : κ' = κ ∧ a' = a
  · obtain ⟨rfl, rfl⟩ := hc
    rw [if_pos ⟨rfl, rfl⟩, tV_i (h _), upc_ap, if_pos ⟨rfl, rfl⟩]
    unfold va_cpy
    by_cases hk : dp ≤ k' ∧ k' < dp + n
    · rw [if_pos hk, if_pos hk]
      exact tV_i (h0 _)
    · rw [if_neg hk, if_neg hk]
      exact tV_i (h _)
  · rw [if_neg hc]
    unfold tV
    rw [upc_ap, if_neg hc]
theorem jput_ca {I : tI} {J : tJ} {P : tP} {κ κ0 a a0 sp dp n : Nat} (h : ∀ k, jso κ k = 2) (h0 : ∀ k, jso κ0 k = 2) : jput (tV I J P) κ a (va_cpy (fun k => tV I J P κ0 k a0) (fun k => tV I J P κ k a) sp dp n) = tV I J (upc P κ a (va_cpy (fun k => P κ0 k a0) (fun k => P κ k a) sp dp n)) := by
  funext κ' k' a'
  rw [jput_ap]
  by_cases hc : κ' = κ ∧ a' = a
  · obtain ⟨rfl, rfl⟩ := hc
    rw [if_pos ⟨rfl, rfl⟩, tV_a (h _), upc_ap, if_pos ⟨rfl, rfl⟩]
    unfold va_cpy
    by_cases hk : dp ≤ k' ∧ k' < dp + n
    · rw [if_pos hk, if_pos hk]
      exact tV_a (h0 _)
    · rw [if_neg hk, if_neg hk]
      exact tV_a (h _)
  · rw [if_neg hc]
    unfold tV
    rw [upc_ap, if_neg hc]
theorem jso_arr {κ : Nat} {ty : FieldType} (hκ : 50 ≤ κ) (h : jkt κ = some ty) (k : Nat) : jso κ k = jsoT ty := by
  unfold jso
  rw [if_neg (Nat.not_lt.mpr hκ), h]
-- ===== steps as rewriting rows =====
section JR
variable {sv : Nat → Value} {d μ pc len t u κ k a n idx tgt : Nat} {L L' : jL} {st st' : List Value} {M : jM} {Q : Option Value → jM → Prop} {i : ClassFile.Instr} {g : jG} {I : tI} {J : tJ} {P : tP}
theorem jstep_of {z : jS} (hd : decode (jcode μ) pc = .ok (i, len)) (h : jex sv μ pc L st M i len = some z) : jstep sv (μ, pc, L, st) M = some z := by
  unfold jstep
  dsimp only
  rw [hd]
  exact h
theorem R_pure (hd : decode (jcode μ) pc = .ok (i, len)) (h : jpure i L st = some (len, L', st')) : Ev sv d (μ, pc, L, st) M Q ↔ Ev sv d (μ, pc + len, L', st') M Q := by
  refine Ev_next (jstep_of hd ?_) (Nat.zero_le d)
  unfold jex
  rw [h]
  dsimp only
  rw [if_pos rfl]
theorem R_br (hd : decode (jcode μ) pc = .ok (i, len)) (h0 : jpure i L st = none) (h : jbr i len pc st = some (tgt, st')) : Ev sv d (μ, pc, L, st) M Q ↔ Ev sv d (μ, tgt, L, st') M Q := by
  refine Ev_next (jstep_of hd ?_) (Nat.zero_le d)
  unfold jex
  rw [h0, h]
theorem R_mem {M' : jM} (hd : decode (jcode μ) pc = .ok (i, len)) (h0 : jpure i L st = none) (h1 : jbr i len pc st = none) (h : jmem sv μ pc i st M = some (len, st', M')) : Ev sv d (μ, pc, L, st) M Q ↔ Ev sv d (μ, pc + len, L, st') M' Q := by
  refine Ev_next (jstep_of hd ?_) (Nat.zero_le d)
  unfold jex
  rw [h0, h1, h]
  dsimp only
  rw [if_pos rfl]
theorem R_ret {r : Option Value} (hd : decode (jcode μ) pc = .ok (i, 1)) (h0 : jpure i L st = none) (h1 : jbr i 1 pc st = none) (h2 : jmem sv μ pc i st M = none) (h : jrt μ i st = some r) : Ev sv d (μ, pc, L, st) M Q ↔ Q r M := by
  refine Ev_ret (jstep_of hd ?_)
  unfold jex
  rw [h0, h1, h2, h]
  rfl
theorem R_nat {M' : jM} (hd : decode (jcode μ) pc = .ok (i, 3)) (h0 : jpure i L st = none) (h1 : jbr i 3 pc st = none) (h2 : jmem sv μ pc i st M = none) (h3 : jrt μ i st = none) (h : jnatv sv μ i st M = some (st', M')) : Ev sv (d + 1) (μ, pc, L, st) M Q ↔ Ev sv (d + 1) (μ, pc + 3, L, st') M' Q := by
  refine Ev_next (b := 1) (jstep_of hd ?_) (Nat.le_add_left 1 d)
  unfold jex
  rw [h0, h1, h2, h3]
  dsimp only
  rw [if_pos rfl, h]
theorem R_call {Fe Fr : jF} (hd : decode (jcode μ) pc = .ok (i, 3)) (h0 : jpure i L st = none) (h1 : jbr i 3 pc st = none) (h2 : jmem sv μ pc i st M = none) (h3 : jrt μ i st = none) (h4 : jnatv sv μ i st M = none) (h : jcall μ pc L i st M = some (Fe, Fr)) : Ev sv (d + 1) (μ, pc, L, st) M Q ↔ Ev sv d Fe M (fun r M1 => Ev sv (d + 1) (Fr.1, Fr.2.1, Fr.2.2.1, r.toList ++ Fr.2.2.2) M1 Q) := by
  refine Ev_call (jstep_of hd ?_)
  unfold jex
  rw [h0, h1, h2, h3]
  dsimp only
  rw [if_pos rfl, h4, h]
  rfl
-- branches
theorem R_goto {off : Int} (hd : decode (jcode μ) pc = .ok (.goto off, 3)) (ht : jtg pc off = some tgt) : Ev sv d (μ, pc, L, st) M Q ↔ Ev sv d (μ, tgt, L, st) M Q := by
  refine R_br hd rfl ?_
  simp [jbr, ht, va_rf, jrf]
theorem R_if {c : ClassFile.Cond} {off : Int} {x : Int32} (hd : decode (jcode μ) pc = .ok (.ifCond c off, 3)) (ht : jtg pc off = some tgt) : Ev sv d (μ, pc, L, .int x :: st) M Q ↔ Ev sv d (μ, if jcb c x 0 then tgt else pc + 3, L, st) M Q := by
  refine R_br hd rfl ?_
  simp [jbr, ht, va_rf, jrf]
theorem R_icmp {c : ClassFile.Cond} {off : Int} {x y : Int32} (hd : decode (jcode μ) pc = .ok (.if_icmp c off, 3)) (ht : jtg pc off = some tgt) : Ev sv d (μ, pc, L, .int y :: .int x :: st) M Q ↔ Ev sv d (μ, if jcb c x y then tgt else pc + 3, L, st) M Q := by
  refine R_br hd rfl ?_
  simp [jbr, ht, va_rf, jrf]
/-- a branch as a choice: on 'equal', or on 'less' -/
theorem R_ch {b : Bool} {p : Prop} [Decidable p] {x y : Nat} (h : b = true ↔ p) : Ev sv d (μ, if b = true then x else y, L, st) M Q ↔ if p then Ev sv d (μ, x, L, st) M Q else Ev sv d (μ, y, L, st) M Q := by
  by_cases hp : p
  · rw [if_pos (h.mpr hp), if_pos hp]
  · rw [if_neg (fun z => hp (h.mp z)), if_neg hp]
theorem R_chn {b : Bool} {p : Prop} [Decidable p] {x y : Nat} (h : b = true ↔ ¬ p) : Ev sv d (μ, if b = true then x else y, L, st) M Q ↔ if p then Ev sv d (μ, y, L, st) M Q else Ev sv d (μ, x, L, st) M Q := by
  by_cases hp : p
  · rw [if_neg (fun z => h.mp z hp), if_pos hp]
  · rw [if_pos (h.mpr hp), if_neg hp]
theorem jcb_eq {x y : Int32} : jcb .eq x y = true ↔ x = y := jcb_iff
theorem jcb_ne {x y : Int32} : jcb .ne x y = true ↔ ¬ x = y := jcb_iff
theorem jcb_lt {x y : Int32} : jcb .lt x y = true ↔ x < y := jcb_iff
theorem jcb_ge {x y : Int32} : jcb .ge x y = true ↔ ¬ x < y := jcb_iff.trans Int32.not_lt.symm
theorem jcb_gt {x y : Int32} : jcb .gt x y = true ↔ y < x := jcb_iff
theorem jcb_le {x y : Int32} : jcb .le x y = true ↔ ¬ y < x := jcb_iff.trans Int32.not_lt.symm
theorem R_null {off : Int} {r : Option Nat} (hd : decode (jcode μ) pc = .ok (.ifnull off, 3)) (ht : jtg pc off = some tgt) : Ev sv d (μ, pc, L, va_rf r :: st) M Q ↔ if r = none then Ev sv d (μ, tgt, L, st) M Q else Ev sv d (μ, pc + 3, L, st) M Q := by
  cases r with
  | none =>
    rw [if_pos rfl]
    refine R_br hd rfl ?_
    simp [jbr, ht, va_rf, jrf]
  | some b =>
    rw [if_neg (fun h => by cases h)]
    refine R_br hd rfl ?_
    simp [jbr, ht, va_rf, jrf]
theorem R_nonnull {off : Int} {r : Option Nat} (hd : decode (jcode μ) pc = .ok (.ifnonnull off, 3)) (ht : jtg pc off = some tgt) : Ev sv d (μ, pc, L, va_rf r :: st) M Q ↔ if r = none then Ev sv d (μ, pc + 3, L, st) M Q else Ev sv d (μ, tgt, L, st) M Q := by
  cases r with
  | none =>
    rw [if_pos rfl]
    refine R_br hd rfl ?_
    simp [jbr, ht, va_rf, jrf]
  | some b =>
    rw [if_neg (fun h => by cases h)]
    refine R_br hd rfl ?_
    simp [jbr, ht, va_rf, jrf]
theorem R_acmpne {off : Int} {b : Nat} (hd : decode (jcode μ) pc = .ok (.if_acmp .ne off, 3)) (ht : jtg pc off = some tgt) : Ev sv d (μ, pc, L, .ref b :: .ref a :: st) M Q ↔ if a = b then Ev sv d (μ, pc + 3, L, st) M Q else Ev sv d (μ, tgt, L, st) M Q := by
  have h : jbr (.if_acmp .ne off) 3 pc (.ref b :: .ref a :: st) = some (if some a = some b then pc + 3 else tgt, st) := by
    simp [jbr, ht, va_rf, jrf]
  rw [R_br hd rfl h]
  by_cases hab : a = b
  · rw [if_pos hab, if_pos (by rw [hab])]
  · rw [if_neg hab, if_neg (fun h => hab (Option.some.inj h))]
theorem R_acmpeq {off : Int} {b : Nat} (hd : decode (jcode μ) pc = .ok (.if_acmp .eq off, 3)) (ht : jtg pc off = some tgt) : Ev sv d (μ, pc, L, .ref b :: .ref a :: st) M Q ↔ if a = b then Ev sv d (μ, tgt, L, st) M Q else Ev sv d (μ, pc + 3, L, st) M Q := by
  have h : jbr (.if_acmp .eq off) 3 pc (.ref b :: .ref a :: st) = some (if some a = some b then tgt else pc + 3, st) := by
    simp [jbr, ht, va_rf, jrf]
  rw [R_br hd rfl h]
  by_cases hab : a = b
  · rw [if_pos hab, if_pos (by rw [hab])]
  · rw [if_neg hab, if_neg (fun h => hab (Option.some.inj h))]
-- locals
/-- a slot that holds no long -/
def jw (o : Option Value) : Bool := match o with
  | some (.long _) => false
  | some (.double _) => false
  | _ => true
theorem jw_none : jw none = true := rfl
theorem jw_int (x : Int32) : jw (some (.int x)) = true := rfl
theorem jw_ref (x : Nat) : jw (some (.ref x)) = true := rfl
theorem jw_null : jw (some .null) = true := rfl
theorem jw_rf (r : Option Nat) : jw (some (va_rf r)) = true := by cases r <;> rfl
theorem jw_wide {o : Option Value} (h : jw o = true) : jwide (some o) = false := by
  cases o with
  | none => rfl
  | some v => cases v <;> first | rfl | cases h
theorem cat_int (x : Int32) : (Value.int x).category = 1 := rfl
theorem cat_ref (x : Nat) : (Value.ref x).category = 1 := rfl
theorem cat_null : Value.null.category = 1 := rfl
theorem cat_long (x : Int64) : (Value.long x).category = 2 := rfl
theorem cat_rf (r : Option Nat) : (va_rf r).category = 1 := by cases r <;> rfl
theorem jcat_nil : jcat [] = 0 := rfl
theorem jcat_cons (v : Value) (r : List Value) : jcat (v :: r) = v.category + jcat r := by
  unfold jcat
  rw [List.map_cons, List.sum_cons]
/-- 0 or 1 -/
def bz (x : Int32) : Prop := x = 0 ∨ x = 1
theorem bz_0 : bz 0 := Or.inl rfl
theorem bz_1 : bz 1 := Or.inr rfl
theorem bz_if {p : Prop} [Decidable p] {x y : Int32} (hx : bz x) (hy : bz y) : bz (if p then x else y) := by
  by_cases h : p
  · rw [if_pos h]; exact hx
  · rw [if_neg h]; exact hy
theorem bz_fits {x : Int32} (h : bz x) : jfits .boolean (.int x) = true := by
  rcases h with h | h <;> subst h <;> rfl
theorem R_st1 {v : Value} {p : Option Value} {jj : Nat} (hd : decode (jcode μ) pc = .ok (i, len)) (hi : jpure i L st = (jst1 L (jj + 1) v).map fun L' => (len, L', st')) (hp : L[jj]? = some p) (hw : jw p = true) (hl : jj + 1 < L.length) : Ev sv d (μ, pc, L, st) M Q ↔ Ev sv d (μ, pc + len, L.set (jj + 1) (some v), st') M Q := by
  refine R_pure hd ?_
  rw [hi]
  have e : jst1 L (jj + 1) v = some (L.set (jj + 1) (some v)) := by
    have hf : jfree L (jj + 1) = true := by
      show (!jwide L[jj]?) = true
      rw [hp, jw_wide hw]
      rfl
    unfold jst1
    rw [hf, if_pos (by simp [hl])]
  rw [e]
  rfl
theorem R_st2 {v : Value} {p : Option Value} {jj : Nat} (hd : decode (jcode μ) pc = .ok (i, len)) (hi : jpure i L st = (jst2 L (jj + 1) v).map fun L' => (len, L', st')) (hp : L[jj]? = some p) (hw : jw p = true) (hl : jj + 1 + 1 < L.length) : Ev sv d (μ, pc, L, st) M Q ↔ Ev sv d (μ, pc + len, (L.set (jj + 1) (some v)).set (jj + 1 + 1) none, st') M Q := by
  refine R_pure hd ?_
  rw [hi]
  have e : jst2 L (jj + 1) v = some ((L.set (jj + 1) (some v)).set (jj + 1 + 1) none) := by
    have hf : jfree L (jj + 1) = true := by
      show (!jwide L[jj]?) = true
      rw [hp, jw_wide hw]
      rfl
    unfold jst2
    rw [hf, if_pos (by simp [hl])]
  rw [e]
  rfl
-- returns
theorem R_iret {x : Int32} (hd : decode (jcode μ) pc = .ok (.ireturn, 1)) (hr : jret μ = some .int) : Ev sv d (μ, pc, L, [.int x]) M Q ↔ Q (some (.int x)) M := by
  refine R_ret hd rfl rfl rfl ?_
  exact if_pos (Or.inl hr)
theorem R_zret {x : Int32} (hd : decode (jcode μ) pc = .ok (.ireturn, 1)) (hr : jret μ = some .boolean) (hx : bz x) : Ev sv d (μ, pc, L, [.int x]) M Q ↔ Q (some (.int x)) M := by
  refine R_ret hd rfl rfl rfl ?_
  exact if_pos (Or.inr ⟨hr, bz_fits hx⟩)
theorem R_lret {x : Int64} (hd : decode (jcode μ) pc = .ok (.lreturn, 1)) (hr : jret μ = some .long) : Ev sv d (μ, pc, L, [.long x]) M Q ↔ Q (some (.long x)) M := by
  refine R_ret hd rfl rfl rfl ?_
  exact if_pos hr
theorem R_aret {r : Option Nat} (hd : decode (jcode μ) pc = .ok (.areturn, 1)) (hr : (jret μ).any (·.isReference) = true) : Ev sv d (μ, pc, L, [va_rf r]) M Q ↔ Q (some (va_rf r)) M := by
  cases r with
  | none =>
    refine R_ret hd rfl rfl rfl ?_
    exact if_pos hr
  | some b =>
    refine R_ret hd rfl rfl rfl ?_
    exact if_pos hr
theorem R_vret (hd : decode (jcode μ) pc = .ok (.return_, 1)) (hr : jret μ = none) : Ev sv d (μ, pc, L, []) M Q ↔ Q none M := by
  refine R_ret hd rfl rfl rfl ?_
  exact if_pos hr
end JR
