-- ===== running =====
/-- d: how deep calls may go; n: fuel -/
def jrun (sv : Nat → Value) : Nat → Nat → jF → jM → Option (Option Value × jM)
  | 0, _, _, _ => none
  | n + 1, d, F, M => match jstep sv F M with
    | none => none
    | some (.inl (b, F', M')) => if b ≤ d then jrun sv n d F' M' else none
    | some (.inr (.inl r)) => some (r, M)
    | some (.inr (.inr (Fe, Fr))) => match d with
      | 0 => none
      | d' + 1 => match jrun sv n d' Fe M with
        | none => none
        | some (r, M1) => jrun sv n (d' + 1) (Fr.1, Fr.2.1, Fr.2.2.1, r.toList ++ Fr.2.2.2) M1
theorem jrun_mono (sv : Nat → Value) : ∀ (n d : Nat) (F : jF) (M : jM) (x : Option Value × jM), jrun sv n d F M = some x → ∀ (n' d' : Nat), n ≤ n' → d ≤ d' → jrun sv n' d' F M = some x := by
  intro n
  induction n with
  | zero => intro d F M x h; simp [jrun] at h
  | succ n ih =>
    intro d F M x h n' d' hn hd
    obtain ⟨k, rfl⟩ : ∃ k, n' = k + 1 := ⟨n' - 1, by omega⟩
    rw [jrun] at h ⊢
    cases hs : jstep sv F M with
    | none => rw [hs] at h; cases h
    | some z =>
      rw [hs] at h
      rcases z with ⟨b, F', M'⟩ | r | ⟨Fe, Fr⟩
      · dsimp only at h ⊢
        split at h
        · rename_i hb
          rw [if_pos (Nat.le_trans hb hd)]
          exact ih d F' M' x h k d' (by omega) hd
        · cases h
      · exact h
      · cases d with
        | zero => cases h
        | succ d0 =>
          obtain ⟨d1, rfl⟩ : ∃ d1, d' = d1 + 1 := ⟨d' - 1, by omega⟩
          dsimp only at h ⊢
          cases h1 : jrun sv n d0 Fe M with
          | none => rw [h1] at h; cases h
          | some y =>
            obtain ⟨r, M1⟩ := y
            rw [h1] at h
            rw [ih d0 Fe M (r, M1) h1 k d1 (by omega) (by omega)]
            exact ih (d0 + 1) _ M1 x h k (d1 + 1) (by omega) (by omega)
def Ev (sv : Nat → Value) (d : Nat) (F : jF) (M : jM) (Q : Option Value → jM → Prop) : Prop := ∃ n r M', jrun sv n d F M = some (r, M') ∧ Q r M'
theorem Ev.mono {sv : Nat → Value} {d d' : Nat} {F : jF} {M : jM} {Q Q' : Option Value → jM → Prop} (h : Ev sv d F M Q) (hd : d ≤ d') (hQ : ∀ r M', Q r M' → Q' r M') : Ev sv d' F M Q' := by
  obtain ⟨n, r, M', h1, h2⟩ := h
  exact ⟨n, r, M', jrun_mono sv n d F M _ h1 n d' (Nat.le_refl n) hd, hQ r M' h2⟩
theorem Ev_next {sv : Nat → Value} {d b : Nat} {F F' : jF} {M M' : jM} {Q : Option Value → jM → Prop} (h : jstep sv F M = some (.inl (b, F', M'))) (hb : b ≤ d) : Ev sv d F M Q ↔ Ev sv d F' M' Q := by
  constructor
  · rintro ⟨n, r, M2, h1, h2⟩
    cases n with
    | zero => simp [jrun] at h1
    | succ n =>
      rw [jrun, h] at h1
      dsimp only at h1
      rw [if_pos hb] at h1
      exact ⟨n, r, M2, h1, h2⟩
  · rintro ⟨n, r, M2, h1, h2⟩
    exact ⟨n + 1, r, M2, by rw [jrun, h]; dsimp only; rw [if_pos hb]; exact h1, h2⟩
theorem Ev_ret {sv : Nat → Value} {d : Nat} {F : jF} {M : jM} {r : Option Value} {Q : Option Value → jM → Prop} (h : jstep sv F M = some (.inr (.inl r))) : Ev sv d F M Q ↔ Q r M := by
  constructor
  · rintro ⟨n, r', M2, h1, h2⟩
    cases n with
    | zero => simp [jrun] at h1
    | succ n =>
      rw [jrun, h] at h1
      cases h1
      exact h2
  · intro hq
    exact ⟨1, r, M, by rw [jrun, h], hq⟩
theorem Ev_call {sv : Nat → Value} {d : Nat} {F Fe Fr : jF} {M : jM} {Q : Option Value → jM → Prop} (h : jstep sv F M = some (.inr (.inr (Fe, Fr)))) : Ev sv (d + 1) F M Q ↔ Ev sv d Fe M (fun r M1 => Ev sv (d + 1) (Fr.1, Fr.2.1, Fr.2.2.1, r.toList ++ Fr.2.2.2) M1 Q) := by
  constructor
  · rintro ⟨n, r, M2, h1, h2⟩
    cases n with
    | zero => simp [jrun] at h1
    | succ n =>
      rw [jrun, h] at h1
      dsimp only at h1
      cases h3 : jrun sv n d Fe M with
      | none => rw [h3] at h1; cases h1
      | some y =>
        obtain ⟨r1, M1⟩ := y
        rw [h3] at h1
        exact ⟨n, r1, M1, h3, n, r, M2, h1, h2⟩
  · rintro ⟨n, r1, M1, h1, n2, r, M2, h2, h3⟩
    refine ⟨max n n2 + 1, r, M2, ?_, h3⟩
    rw [jrun, h]
    dsimp only
    rw [jrun_mono sv n d Fe M _ h1 (max n n2) d (by omega) (Nat.le_refl d)]
    exact jrun_mono sv n2 (d + 1) _ M1 _ h2 (max n n2) (d + 1) (by omega) (Nat.le_refl _)
-- ===== memory only grows =====
def jle (M M' : jM) : Prop := M.1 ≤ M'.1 ∧ M.2.1 ≤ M'.2.1 ∧ ∀ a, a < M.1 → M'.2.2.1 a = M.2.2.1 a
theorem jle_rf (M : jM) : jle M M := ⟨Nat.le_refl _, Nat.le_refl _, fun _ _ => rfl⟩
theorem jle.tr {M M' M'' : jM} (h : jle M M') (h' : jle M' M'') : jle M M'' := ⟨Nat.le_trans h.1 h'.1, Nat.le_trans h.2.1 h'.2.1, fun a ha => (h'.2.2 a (Nat.lt_of_lt_of_le ha h.1)).trans (h.2.2 a ha)⟩
theorem jle_new {t u w : Nat} {g : jG} {V V' : jV} {x : Nat × Nat} : jle (t, u, g, V) (t + 1, u + w, jgset g t x, V') := ⟨Nat.le_succ _, Nat.le_add_right _ _, fun a ha => by show jgset g t x a = g a; rw [jgset_ap, if_neg (Nat.ne_of_lt ha)]⟩
theorem jle_V {t u : Nat} {g : jG} {V V' : jV} : jle (t, u, g, V) (t, u, g, V') := ⟨Nat.le_refl _, Nat.le_refl _, fun _ _ => rfl⟩
theorem jA_mono {M M' : jM} (h : jle M M') {q : Nat} (hq : jA M' q) : jA M q := by
  by_cases hlt : q < M.1
  · rcases hq with ⟨κ, n, h1, h2⟩ | h1
    · exact Or.inl ⟨κ, n, by rw [← h.2.2 q hlt]; exact h1, h2⟩
    · exact absurd (Nat.le_trans h.1 h1) (Nat.not_le.mpr hlt)
  · exact Or.inr (Nat.not_lt.mp hlt)
set_option maxHeartbeats 4000000 in
theorem jmem_le {sv : Nat → Value} {μ pc len : Nat} {i : ClassFile.Instr} {st st' : List Value} {M M' : jM} (h : jmem sv μ pc i st M = some (len, st', M')) : jle M M' := by
  obtain ⟨t, u, g, V⟩ := M
  unfold jmem at h
  split at h
  all_goals (repeat' (first | (cases h; done) | (cases h; first | exact jle_rf _ | exact jle_new | exact jle_V) | (split at h)))
theorem jcpy_le {st st' : List Value} {M M' : jM} (h : jcpy st M = some (st', M')) : jle M M' ∧ M'.1 = M.1 ∧ M'.2.1 = M.2.1 := by
  obtain ⟨t, u, g, V⟩ := M
  unfold jcpy at h
  split at h
  all_goals (repeat' (first | (cases h; done) | (cases h; exact ⟨jle_V, rfl, rfl⟩) | (split at h)))
theorem jnatv_le {sv : Nat → Value} {μ : Nat} {i : ClassFile.Instr} {st st' : List Value} {M M' : jM} (h : jnatv sv μ i st M = some (st', M')) : jle M M' := by
  obtain ⟨t, u, g, V⟩ := M
  unfold jnatv at h
  split at h
  all_goals (repeat' (first | (exact (jcpy_le h).1) | (cases h; done) | (cases h; first | exact jle_rf _ | exact jle_new | exact jle_V) | (split at h)))
theorem jnatv_eq {sv : Nat → Value} {μ : Nat} {i : ClassFile.Instr} {st st' : List Value} {M M' : jM} (h : jnatv sv μ i st M = some (st', M')) : M'.1 = M.1 ∧ M'.2.1 = M.2.1 := by
  obtain ⟨t, u, g, V⟩ := M
  unfold jnatv at h
  split at h
  all_goals (repeat' (first | (exact (jcpy_le h).2) | (cases h; done) | (cases h; exact ⟨rfl, rfl⟩) | (split at h)))
theorem jcall_fr {μ pc : Nat} {L : jL} {i : ClassFile.Instr} {st : List Value} {M : jM} {Fe Fr : jF} (h : jcall μ pc L i st M = some (Fe, Fr)) : Fr.1 = μ ∧ Fr.2.2.1 = L := by
  unfold jcall at h
  split at h
  all_goals (repeat' (first | (cases h; done) | (cases h; exact ⟨rfl, rfl⟩) | (split at h)))
theorem jlt_inv {μ pc : Nat} {L : jL} {i : ClassFile.Instr} {st : List Value} {M : jM} {z : jS} (h : jlt μ pc L i st M = some z) : ∃ (b o : Nat) (x y : Int32) (r : List Value), i = .invokestatic 66 ∧ st = .ref b :: .int y :: .int x :: .ref o :: r ∧ μ = 110 ∧ jcat r ≤ 8 ∧ ((jno M o x y = true ∧ z = .inl (10, (μ, pc + 3, L, .int 1 :: r), M.1 + 1, M.2.1 + 6, M.2.2.1, M.2.2.2)) ∨ (jno M o x y = false ∧ z = .inr (.inr ((109, 0, [some (.ref o), some (.int x), some (.int y), some (.ref b), none], []), (μ, pc + 3, L, r))))) := by
  unfold jlt at h
  split at h
  · rename_i b y x o r
    split at h
    · rename_i hc
      refine ⟨b, o, x, y, r, rfl, rfl, hc.1, hc.2, ?_⟩
      split at h
      · rename_i hn
        cases h
        exact Or.inl ⟨hn, rfl⟩
      · rename_i hn
        cases h
        exact Or.inr ⟨by simpa using hn, rfl⟩
    · cases h
  · cases h
/-- what a step was -/
theorem jex_inv {sv : Nat → Value} {μ pc len : Nat} {L : jL} {st : List Value} {M : jM} {i : ClassFile.Instr} {z : jS} (h : jex sv μ pc L st M i len = some z) :
    (∃ L' st', jpure i L st = some (len, L', st') ∧ z = .inl (0, (μ, pc + len, L', st'), M)) ∨ (∃ t st', jbr i len pc st = some (t, st') ∧ z = .inl (0, (μ, t, L, st'), M)) ∨ (∃ st' M', jmem sv μ pc i st M = some (len, st', M') ∧ z = .inl (0, (μ, pc + len, L, st'), M')) ∨
    (∃ r, jrt μ i st = some r ∧ len = 1 ∧ z = .inr (.inl r)) ∨ (∃ st' M', len = 3 ∧ jnatv sv μ i st M = some (st', M') ∧ z = .inl (1, (μ, pc + 3, L, st'), M')) ∨ (∃ q, len = 3 ∧ jcall μ pc L i st M = some q ∧ z = .inr (.inr q)) ∨ (len = 3 ∧ jlt μ pc L i st M = some z) := by
  unfold jex at h
  split at h
  · rename_i n L' st' h1
    split at h
    · rename_i hn
      subst hn
      cases h
      exact Or.inl ⟨L', st', h1, rfl⟩
    · cases h
  · split at h
    · rename_i t st' h1
      cases h
      exact Or.inr (Or.inl ⟨t, st', h1, rfl⟩)
    · split at h
      · rename_i n st' M' h1
        split at h
        · rename_i hn
          subst hn
          cases h
          exact Or.inr (Or.inr (Or.inl ⟨st', M', h1, rfl⟩))
        · cases h
      · split at h
        · rename_i r h1
          split at h
          · rename_i hn
            cases h
            exact Or.inr (Or.inr (Or.inr (Or.inl ⟨r, h1, hn, rfl⟩)))
          · cases h
        · split at h
          · rename_i hn
            split at h
            · rename_i st' M' h1
              cases h
              exact Or.inr (Or.inr (Or.inr (Or.inr (Or.inl ⟨st', M', hn, h1, rfl⟩))))
            · split at h
              · rename_i z' h0
                cases h
                obtain ⟨q, h1, h2⟩ := Option.map_eq_some_iff.mp h0
                exact Or.inr (Or.inr (Or.inr (Or.inr (Or.inr (Or.inl ⟨q, hn, h1, h2.symm⟩)))))
              · exact Or.inr (Or.inr (Or.inr (Or.inr (Or.inr (Or.inr ⟨hn, h⟩)))))
          · cases h
theorem jrun_le (sv : Nat → Value) : ∀ (n d : Nat) (F : jF) (M : jM) (r : Option Value) (M' : jM), jrun sv n d F M = some (r, M') → jle M M' := by
  intro n
  induction n with
  | zero => intro d F M r M' h; simp [jrun] at h
  | succ n ih =>
    intro d F M r M' h
    rw [jrun] at h
    cases hs : jstep sv F M with
    | none => rw [hs] at h; cases h
    | some z =>
      rw [hs] at h
      unfold jstep at hs
      split at hs
      · rename_i i len hd
        rcases jex_inv hs with ⟨L', st', h1, rfl⟩ | ⟨t, st', h1, rfl⟩ | ⟨st', M1, h1, rfl⟩ | ⟨r1, h1, h2, rfl⟩ | ⟨st', M1, h2, h1, rfl⟩ | ⟨⟨Fe, Fr⟩, h2, h1, rfl⟩ | ⟨h2, h1⟩
        · dsimp only at h
          rw [if_pos (Nat.zero_le d)] at h
          exact ih _ _ _ _ _ h
        · dsimp only at h
          rw [if_pos (Nat.zero_le d)] at h
          exact ih _ _ _ _ _ h
        · dsimp only at h
          rw [if_pos (Nat.zero_le d)] at h
          exact (jmem_le h1).tr (ih _ _ _ _ _ h)
        · cases h
          exact jle_rf _
        · dsimp only at h
          split at h
          · exact (jnatv_le h1).tr (ih _ _ _ _ _ h)
          · cases h
        · cases d with
          | zero => cases h
          | succ d0 =>
            dsimp only at h
            cases h3 : jrun sv n d0 Fe M with
            | none => rw [h3] at h; cases h
            | some y =>
              obtain ⟨r1, M1⟩ := y
              rw [h3] at h
              exact (ih _ _ _ _ _ h3).tr (ih _ _ _ _ _ h)
        · obtain ⟨b, o, x, y, r0, -, -, -, -, ⟨-, rfl⟩ | ⟨-, rfl⟩⟩ := jlt_inv h1
          · dsimp only at h
            split at h
            · exact jle.tr (M' := (M.1 + 1, M.2.1 + 6, M.2.2.1, M.2.2.2)) ⟨Nat.le_succ _, Nat.le_add_right _ _, fun _ _ => rfl⟩ (ih _ _ _ _ _ h)
            · cases h
          · cases d with
            | zero => cases h
            | succ d0 =>
              dsimp only at h
              cases h3 : jrun sv n d0 (109, 0, [some (.ref o), some (.int x), some (.int y), some (.ref b), none], []) M with
              | none => rw [h3] at h; cases h
              | some q =>
                obtain ⟨r1, M1⟩ := q
                rw [h3] at h
                exact (ih _ _ _ _ _ h3).tr (ih _ _ _ _ _ h)
      · cases hs
/-- any run, with the memory grown -/
theorem Ev.le {sv : Nat → Value} {d : Nat} {F : jF} {M : jM} {Q : Option Value → jM → Prop} (h : Ev sv d F M Q) : Ev sv d F M (fun r M' => Q r M' ∧ jle M M') := by
  obtain ⟨n, r, M', h1, h2⟩ := h
  exact ⟨n, r, M', h1, h2, jrun_le sv n d F M r M' h1⟩
