/-! THE PURE MACHINE (draft, never compiled yet). Memory: (top, slots used, tags, values). tags a = some (κ, n): the cell at a is of kind κ (κ < 50: object of class number κ, n fields; κ ≥ 50: an array of kind κ, n elements). values κ k a: field (element) k of the cell a of kind κ. Tables of the program (jcode, jown, jmaxl, jret, jfl, jnw, jan, jmt, jnat, jsg, jldc, jck, jfn, jft, jdv): part 01b. -/
abbrev jG : Type := Nat → Option (Nat × Nat)
abbrev jV : Type := Nat → Nat → Nat → Value
abbrev jM : Type := Nat × Nat × jG × jV
abbrev jL : Type := List (Option Value)
abbrev jF : Type := Nat × Nat × jL × List Value
abbrev jS : Type := (Nat × jF × jM) ⊕ (Option Value ⊕ (jF × jF))
def jset (V : jV) (κ k a : Nat) (v : Value) : jV := fun κ' k' a' => if κ' = κ ∧ k' = k ∧ a' = a then v else V κ' k' a'
/-- the whole cell a of kind κ becomes f -/
def jput (V : jV) (κ a : Nat) (f : Nat → Value) : jV := fun κ' k' a' => if κ' = κ ∧ a' = a then f k' else V κ' k' a'
theorem jset_ap (V : jV) (κ k a : Nat) (v : Value) (κ' k' a' : Nat) : jset V κ k a v κ' k' a' = if κ' = κ ∧ k' = k ∧ a' = a then v else V κ' k' a' := rfl
theorem jput_ap (V : jV) (κ a : Nat) (f : Nat → Value) (κ' k' a' : Nat) : jput V κ a f κ' k' a' = if κ' = κ ∧ a' = a then f k' else V κ' k' a' := rfl
-- ===== locals =====
def jwide (o : Option (Option Value)) : Bool := match o with
  | some (some v) => v.category == 2
  | _ => false
/-- the slot ahead of i holds no live long -/
def jfree (L : jL) (i : Nat) : Bool := match i with
  | 0 => true
  | j + 1 => !jwide (L[j]?)
def jst1 (L : jL) (i : Nat) (v : Value) : Option jL := if decide (i < L.length) && jfree L i then some (L.set i (some v)) else none
def jst2 (L : jL) (i : Nat) (v : Value) : Option jL := if decide (i + 1 < L.length) && jfree L i then some ((L.set i (some v)).set (i + 1) none) else none
def jp : Nat → jL → List (Nat × Value)
  | _, [] => []
  | i, none :: r => jp (i + 1) r
  | i, some v :: r => (i, v) :: jp (i + 1) r
theorem jp_mem : ∀ (L : jL) (k : Nat) (q : Nat × Value), q ∈ jp k L ↔ ∃ j, L[j]? = some (some q.2) ∧ q.1 = k + j := by
  intro L
  induction L with
  | nil => intro k q; simp [jp]
  | cons o r ih =>
    intro k q
    cases o with
    | none =>
      rw [jp, ih]
      constructor
      · rintro ⟨j, h1, h2⟩
        exact ⟨j + 1, by simpa using h1, by omega⟩
      · rintro ⟨j, h1, h2⟩
        cases j with
        | zero => simp at h1
        | succ j => exact ⟨j, by simpa using h1, by omega⟩
    | some v =>
      rw [jp, List.mem_cons, ih]
      constructor
      · rintro (h | ⟨j, h1, h2⟩)
        · subst h
          exact ⟨0, by simp, by simp⟩
        · exact ⟨j + 1, by simpa using h1, by omega⟩
      · rintro ⟨j, h1, h2⟩
        cases j with
        | zero =>
          left
          obtain ⟨a, b⟩ := q
          simp at h1 h2
          subst h1 h2
          rfl
        | succ j => exact Or.inr ⟨j, by simpa using h1, by omega⟩
def jlv (ls : Array Slot) (n : Nat) (L : jL) : Prop := L.length = n ∧ lv_has ls n (jp 0 L)
theorem jlv_at {ls : Array Slot} {n : Nat} {L : jL} (h : jlv ls n L) {i : Nat} {v : Value} (hi : L[i]? = some (some v)) : ls[i]? = some (.val v) :=
  h.2.2.2 (i, v) ((jp_mem L 0 (i, v)).mpr ⟨i, hi, by simp⟩)
theorem jlv_st1 {ls ls' : Array Slot} {n i : Nat} {L L' : jL} {v : Value} (hL : jlv ls n L) (h : jst1 L i v = some L') (h2 : lv_has ls' n ((i, v) :: (jp 0 L).filter (fun q => !(q.1 == i) && !(q.1 + 1 == i && q.2.category == 2)))) : jlv ls' n L' := by
  unfold jst1 at h
  split at h
  · rename_i hc
    cases h
    simp only [Bool.and_eq_true, decide_eq_true_eq] at hc
    refine ⟨by rw [List.length_set]; exact hL.1, h2.1, h2.2.1, fun q hq => ?_⟩
    obtain ⟨j, hj, e⟩ := (jp_mem _ 0 q).mp hq
    rw [Nat.zero_add] at e
    by_cases hji : j = i
    · subst hji
      rw [List.getElem?_set_self hc.1] at hj
      simp only [Option.some.injEq] at hj
      have := h2.2.2 (j, v) List.mem_cons_self
      rw [e, ← hj]
      exact this
    · rw [List.getElem?_set_ne (Ne.symm hji)] at hj
      refine h2.2.2 q (List.mem_cons_of_mem _ (List.mem_filter.mpr ⟨(jp_mem L 0 q).mpr ⟨j, hj, by rw [Nat.zero_add]; exact e⟩, ?_⟩))
      have hne : (q.1 == i) = false := by rw [e]; simpa using hji
      rw [hne]
      by_cases hw : q.1 + 1 = i
      · have hf := hc.2
        rw [← hw, e] at hf
        simp only [jfree, hj, jwide] at hf
        simp only [hw, beq_self_eq_true, Bool.true_and, Bool.not_false]
        exact hf
      · have hne2 : (q.1 + 1 == i) = false := by simpa using hw
        rw [hne2]
        rfl
  · cases h
theorem jlv_st2 {ls ls' : Array Slot} {n i : Nat} {L L' : jL} {v : Value} (hL : jlv ls n L) (h : jst2 L i v = some L') (h2 : lv_has ls' n ((i, v) :: (jp 0 L).filter (fun q => !(q.1 == i) && (!(q.1 == i + 1) && !(q.1 + 1 == i && q.2.category == 2))))) : jlv ls' n L' := by
  unfold jst2 at h
  split at h
  · rename_i hc
    cases h
    simp only [Bool.and_eq_true, decide_eq_true_eq] at hc
    refine ⟨by rw [List.length_set, List.length_set]; exact hL.1, h2.1, h2.2.1, fun q hq => ?_⟩
    obtain ⟨j, hj, e⟩ := (jp_mem _ 0 q).mp hq
    rw [Nat.zero_add] at e
    by_cases hj1 : j = i + 1
    · subst hj1
      rw [List.getElem?_set_self (by rw [List.length_set]; exact hc.1)] at hj
      simp at hj
    · rw [List.getElem?_set_ne (Ne.symm hj1)] at hj
      by_cases hji : j = i
      · subst hji
        rw [List.getElem?_set_self (by omega)] at hj
        simp only [Option.some.injEq] at hj
        have := h2.2.2 (j, v) List.mem_cons_self
        rw [e, ← hj]
        exact this
      · rw [List.getElem?_set_ne (Ne.symm hji)] at hj
        refine h2.2.2 q (List.mem_cons_of_mem _ (List.mem_filter.mpr ⟨(jp_mem L 0 q).mpr ⟨j, hj, by rw [Nat.zero_add]; exact e⟩, ?_⟩))
        have hne : (q.1 == i) = false := by rw [e]; simpa using hji
        have hne1 : (q.1 == i + 1) = false := by rw [e]; simpa using hj1
        rw [hne, hne1]
        by_cases hw : q.1 + 1 = i
        · have hf := hc.2
          rw [← hw, e] at hf
          simp only [jfree, hj, jwide] at hf
          simp only [hw, beq_self_eq_true, Bool.true_and, Bool.not_false]
          exact hf
        · have hne2 : (q.1 + 1 == i) = false := by simpa using hw
          rw [hne2]
          rfl
  · cases h
theorem jst1_lt {L L' : jL} {i : Nat} {v : Value} (h : jst1 L i v = some L') : i < L.length := by
  unfold jst1 at h
  split at h
  · rename_i hc
    simp only [Bool.and_eq_true, decide_eq_true_eq] at hc
    exact hc.1
  · cases h
theorem jst2_lt {L L' : jL} {i : Nat} {v : Value} (h : jst2 L i v = some L') : i + 1 < L.length := by
  unfold jst2 at h
  split at h
  · rename_i hc
    simp only [Bool.and_eq_true, decide_eq_true_eq] at hc
    exact hc.1
  · cases h
/-- a method's first locals: its arguments, a long one taking two places -/
def jarg : List Value → jL
  | [] => []
  | v :: r => if v.category = 2 then some v :: none :: jarg r else some v :: jarg r
def jent (n : Nat) (as : List Value) : jL := jarg as ++ List.replicate (n - (jarg as).length) none
theorem jp_rep : ∀ (c k : Nat), jp k (List.replicate c (none : Option Value)) = [] := by
  intro c
  induction c with
  | zero => intro k; rfl
  | succ c ih => intro k; rw [List.replicate_succ, jp, ih]
theorem jp_arg : ∀ (vs : List Value) (k c : Nat), jp k (jarg vs ++ List.replicate c (none : Option Value)) = lv_args k vs := by
  intro vs
  induction vs with
  | nil => intro k c; exact jp_rep c k
  | cons v vs ih =>
    intro k c
    by_cases h : v.category = 2
    · simp only [jarg, h, if_true, List.cons_append, jp, lv_args, ih]
    · simp only [jarg, h, if_false, List.cons_append, jp, lv_args, ih]
theorem jarg_len : ∀ vs : List Value, (jarg vs).length = (lg_sl vs).length := by
  intro vs
  induction vs with
  | nil => rfl
  | cons v vs ih =>
    by_cases h : v.category = 2
    · simp only [jarg, h, if_true, List.length_cons, ih, lg_sl, List.flatMap_cons, List.length_append, List.length_nil]
      omega
    · simp only [jarg, h, if_false, List.length_cons, ih, lg_sl, List.flatMap_cons, List.length_append, List.length_nil]
      omega
theorem jlv_entry {vs : List Value} {n : Nat} (h : (jarg vs).length ≤ n) : jlv ((lg_sl vs ++ List.replicate (n - (lg_sl vs).length) Slot.unset).toArray) n (jent n vs) := by
  refine ⟨by unfold jent; rw [List.length_append, List.length_replicate]; omega, ?_⟩
  unfold jent
  rw [jp_arg]
  exact lv_entry vs (by rw [← jarg_len]; exact h)
