-- ===== words, tables of a state =====
theorem jtr_warm {s U : State} {w : Cond} (ht : jtr w = true) (hW : s.WarmedH U.vm) (h : ∀ A : Array Value, w.before A s = true) (A : Array Value) : w.before A U = true := by
  unfold jtr at ht
  split at ht
  · exact va_Nw.use rfl (va_Nw.warmF hW (h #[]))
  · exact va_Nw.use rfl (va_Nw.warmM hW (h #[]))
  · exact va_Nw.use rfl (va_Nw.warmC hW (h #[]))
  · exact va_Nw.use rfl (va_Nw.warmD hW (h #[]))
  · exact word_at hW (Or.inr ⟨_, rfl⟩) (h #[])
  · exact va_AO.use (va_AO.moved hW.alike (h #[]))
  · exact word_at hW (Or.inl ht) (h #[])
def jW (s : State) : Prop := ∀ w ∈ jwords, ∀ A : Array Value, w.before A s = true
theorem jW_warm {s U : State} (hW : s.WarmedH U.vm) (h : jW s) : jW U := fun w hw A => jtr_warm (jwords_tr w hw) hW (h w hw) A
def jKa (s : State) (cA : ClassId) (ty : FieldType) : Prop := ∃ (kA : Class) (comp : ClassId), s.vm.classes[cA]? = some kA ∧ kA.kind = .array comp ty ∧ ∀ C : String, ty = .object C → s.vm.findClass C = some comp
def jK (D : va_G) (E : Nat → ClassId) (s : State) : Prop := (∀ (κ : Nat) (q : vw_C), vwCl[κ]? = some q → u_Kn s q.1 q.2.1 q.2.2 (D.1 κ) (D.2 κ)) ∧ ∀ (κ : Nat) (ty : FieldType), jkt κ = some ty → jKa s (E κ) ty ∧ (κ ≠ 94 → s.vm.findClass ("[" ++ ty.toString) = some (E κ))
theorem jKa_moved {u U : State} (hvm : u.vm.Alike U.vm) {cA : ClassId} {ty : FieldType} (h : jKa u cA ty) : jKa U cA ty := by
  obtain ⟨kA, comp, h1, h2, h3⟩ := h
  obtain ⟨k', hk', he⟩ := hvm.2.2 _ _ h1
  exact ⟨k', comp, hk', by rw [he]; exact h2, fun C hC => by rw [hvm.findClass]; exact h3 C hC⟩
theorem jK_moved {D : va_G} {E : Nat → ClassId} {u U : State} (hvm : u.vm.Alike U.vm) (h : jK D E u) : jK D E U :=
  ⟨fun κ q hq => u_Kn_moved hvm (h.1 κ q hq), fun κ ty hk => ⟨jKa_moved hvm (h.2 κ ty hk).1, fun hne => by rw [hvm.findClass]; exact (h.2 κ ty hk).2 hne⟩⟩
-- ===== the heap holds a memory =====
/-- an array's cell -/
def jAr (H : Heap) (cA : ClassId) (a n : Nat) (f : Nat → Value) : Prop := ∃ cell : Cell, H[a]? = some cell ∧ cell.cls = cA ∧ cell.vm ≠ .unknown ∧ (∀ q, cell.vm ≠ .statics q) ∧ cell.slots.size = n ∧ ∀ j : Nat, j < n → cell.slots[j]? = some (f j)
def jcell (D : va_G) (E : Nat → ClassId) (H : Heap) (V : jV) (a κ n : Nat) : Prop := (κ < 50 ∧ ∃ r : vw_C, vwCl[κ]? = some r ∧ r.2.2 = n ∧ t_OB a (D.1 κ) n (D.2 κ) H (fun k => V κ k a)) ∨ (50 ≤ κ ∧ (∃ ty, jkt κ = some ty) ∧ jAr H (E κ) a n (fun k => V κ k a) ∧ (κ < 90 → H[a]? = some (arrV (E κ) n (fun k => V κ k a))))
def jSim (D : va_G) (E : Nat → ClassId) (H : Heap) (M : jM) : Prop := H.size = M.1 ∧ ∀ a κ n : Nat, M.2.2.1 a = some (κ, n) → jcell D E H M.2.2.2 a κ n
theorem jAr_kept {H H' : Heap} {cA : ClassId} {a n : Nat} {f : Nat → Value} (h : jAr H cA a n f) (e : H'[a]? = H[a]?) : jAr H' cA a n f := by
  obtain ⟨cell, h1, h2⟩ := h
  exact ⟨cell, by rw [e]; exact h1, h2⟩
theorem jAr_lt {H : Heap} {cA : ClassId} {a n : Nat} {f : Nat → Value} (h : jAr H cA a n f) : a < H.size := by
  obtain ⟨cell, h1, -⟩ := h
  exact (Array.getElem?_eq_some_iff.mp h1).1
theorem jcell_kept {D : va_G} {E : Nat → ClassId} {H H' : Heap} {V V' : jV} {a κ n : Nat} (h : jcell D E H V a κ n) (e : H'[a]? = H[a]?) (hV : ∀ k, V' κ k a = V κ k a) : jcell D E H' V' a κ n := by
  have hf : (fun k => V' κ k a) = fun k => V κ k a := funext hV
  rcases h with ⟨h1, r, h2, h3, h4⟩ | ⟨h1, h2, h3, h4⟩
  · exact Or.inl ⟨h1, r, h2, h3, by rw [hf]; exact h4.kept e⟩
  · exact Or.inr ⟨h1, h2, by rw [hf]; exact jAr_kept h3 e, fun hk => by rw [hf, e]; exact h4 hk⟩
theorem jcell_lt {D : va_G} {E : Nat → ClassId} {H : Heap} {V : jV} {a κ n : Nat} (h : jcell D E H V a κ n) : a < H.size := by
  rcases h with ⟨-, r, -, -, cell, h1, -⟩ | ⟨-, -, h3, -⟩
  · exact (Array.getElem?_eq_some_iff.mp h1).1
  · exact jAr_lt h3
def jgset (g : jG) (a : Nat) (x : Nat × Nat) : jG := fun b => if b = a then some x else g b
theorem jgset_ap (g : jG) (a : Nat) (x : Nat × Nat) (b : Nat) : jgset g a x b = if b = a then some x else g b := rfl
theorem jSim_put {D : va_G} {E : Nat → ClassId} {H H' : Heap} {t u : Nat} {g : jG} {V V' : jV} {a κ n : Nat} (h : jSim D E H (t, u, g, V)) (hg : g a = some (κ, n)) (hc : jcell D E H' V' a κ n) (hz : H'.size = H.size) (ho : ∀ q : Nat, q ≠ a → H'[q]? = H[q]?) (hV : ∀ κ' k b : Nat, b ≠ a → V' κ' k b = V κ' k b) : jSim D E H' (t, u, g, V') := by
  refine ⟨hz.trans h.1, fun b κ' n' hb => ?_⟩
  by_cases hba : b = a
  · subst hba
    have hb' : g b = some (κ', n') := hb
    rw [hg] at hb'
    cases hb'
    exact hc
  · exact jcell_kept (h.2 b κ' n' hb) (ho b hba) (fun k => hV κ' k b hba)
theorem jSim_push {D : va_G} {E : Nat → ClassId} {H H' : Heap} {t u u' : Nat} {g : jG} {V V' : jV} {κ n : Nat} (h : jSim D E H (t, u, g, V)) (hc : jcell D E H' V' t κ n) (hz : H'.size = t + 1) (ho : ∀ q : Nat, q < t → H'[q]? = H[q]?) (hV : ∀ κ' k b : Nat, b ≠ t → V' κ' k b = V κ' k b) : jSim D E H' (t + 1, u', jgset g t (κ, n), V') := by
  refine ⟨hz, fun b κ' n' hb => ?_⟩
  have hb' : jgset g t (κ, n) b = some (κ', n') := hb
  rw [jgset_ap] at hb'
  by_cases hbt : b = t
  · subst hbt
    rw [if_pos rfl] at hb'
    cases hb'
    exact hc
  · rw [if_neg hbt] at hb'
    have h1 := h.2 b κ' n' hb'
    have hlt : b < t := by have := jcell_lt h1; rw [h.1] at this; exact this
    exact jcell_kept h1 (ho b hlt) (fun k => hV κ' k b hbt)
theorem jcell_obj {D : va_G} {E : Nat → ClassId} {H : Heap} {V : jV} {a κ n : Nat} (h : jcell D E H V a κ n) (hκ : κ < 50) {q : vw_C} (hq : vwCl[κ]? = some q) : n = q.2.2 ∧ t_OB a (D.1 κ) n (D.2 κ) H (fun k => V κ k a) := by
  rcases h with ⟨h1, r, h2, h3, h4⟩ | ⟨h1, -⟩
  · cases h2.symm.trans hq
    exact ⟨h3.symm, h4⟩
  · omega
theorem jcell_arr {D : va_G} {E : Nat → ClassId} {H : Heap} {V : jV} {a κ n : Nat} (h : jcell D E H V a κ n) (hκ : 50 ≤ κ) : jAr H (E κ) a n (fun k => V κ k a) := by
  rcases h with ⟨h1, -⟩ | ⟨-, -, h3, -⟩
  · omega
  · exact h3
theorem jcell_arrV {D : va_G} {E : Nat → ClassId} {H : Heap} {V : jV} {a κ n : Nat} (h : jcell D E H V a κ n) (hκ : 50 ≤ κ) (hκ2 : κ < 90) : H[a]? = some (arrV (E κ) n (fun k => V κ k a)) := by
  rcases h with ⟨h1, -⟩ | ⟨-, -, -, h4⟩
  · omega
  · exact h4 hκ2
theorem jAr_arrV {H : Heap} {cA : ClassId} {a n : Nat} {f : Nat → Value} (h : H[a]? = some (arrV cA n f)) : jAr H cA a n f :=
  ⟨_, h, rfl, (fun h => by cases h), (fun q h => by cases h), arrV_size _ _ _, fun j hj => arrV_read _ _ hj⟩
theorem jcell_ofV {D : va_G} {E : Nat → ClassId} {H : Heap} {V : jV} {a κ n : Nat} {f : Nat → Value} (hκ : 50 ≤ κ) (hk : ∃ ty, jkt κ = some ty) (h : H[a]? = some (arrV (E κ) n f)) (hf : ∀ k, V κ k a = f k) : jcell D E H V a κ n := by
  have e : (fun k => V κ k a) = f := funext hf
  exact Or.inr ⟨hκ, hk, by rw [e]; exact jAr_arrV h, fun _ => by rw [e]; exact h⟩
/-- what may be written: objects and arrays of the kinds that are written, and all that is made from now on -/
def jA (M : jM) : Nat → Prop := fun q => (∃ κ n : Nat, M.2.2.1 q = some (κ, n) ∧ κ < 90) ∨ M.1 ≤ q
def jfits (ty : FieldType) (v : Value) : Bool := match ty, v with
  | .int, .int _ => true
  | .long, .long _ => true
  | .boolean, .int x => x == 0 || x == 1
  | .object _, .null => true
  | .object _, .ref _ => true
  | .array _, .null => true
  | .array _, .ref _ => true
  | _, _ => false
theorem jfits_ok {ty : FieldType} {v : Value} (h : jfits ty v = true) : narrow ty v = v ∧ fits ty v = true := by
  unfold jfits at h
  split at h
  · exact ⟨rfl, rfl⟩
  · exact ⟨rfl, rfl⟩
  · rename_i x
    simp only [Bool.or_eq_true, beq_iff_eq] at h
    rcases h with h | h <;> subst h <;> exact ⟨by decide, by decide⟩
  · exact ⟨rfl, rfl⟩
  · exact ⟨rfl, rfl⟩
  · exact ⟨rfl, rfl⟩
  · exact ⟨rfl, rfl⟩
  · cases h
section JM
variable {p : Program} {l : Launch} {e : Env} {R : Room} {s : State} {m : MethodId} {args : Array Value} {below : List Frame} {meth : Method} {c : Code} {H : Heap} {locs : List Loc} {cells slots : Nat} {Q : State → Prop}
variable {cc : ByteArray} {pc : Nat} {ls : Array Slot} {rest : List Value} {D : va_G} {E : Nat → ClassId} {A : Nat → Prop} {own : String} {idx a κ n k t u : Nat} {g : jG} {V : jV}
theorem jget_sound (hx : p.tables.exec = Jvm.exec) (hb : c.code = cc) (hW : jW s) (hK : jK D E s) (hown : s.vm.findClass own = some m.cls) {C : String} {T : u_T} {N : Nat} (hc : vwCl[κ]? = some (C, T, N)) (hk : k < N) (hL : jLk own idx (T k).1 (T k).2.1 (T k).2.2.1) (hS : jSim D E H (t, u, g, V)) (hg : g a = some (κ, n)) (hκ : κ < 50) (hd : decode cc pc = .ok (.getfield idx, 3))
    (kk : W p l e R s m args below meth c H locs cells slots Q (F0 m (pc + 3) ls (V κ k a :: rest))) : W p l e R s m args below meth c H locs cells slots Q (F0 m pc ls (.ref a :: rest)) := by
  obtain ⟨hn, cell, q1, q2, q3, q4⟩ := jcell_obj (hS.2 a κ n hg) hκ hc
  obtain ⟨hSl, hfc, kC, hkC, hkind⟩ := hK.1 κ _ hc
  obtain ⟨cf, kf, fi, f, hi, hsl⟩ := hSl k hk
  have hts : ∀ w ∈ jwords, w.before args s = true := fun w h => hW w h args
  obtain ⟨ref, hl, hr⟩ := hL
  have hi2 : s.fieldFound? ref (T k).2.1 (T k).2.2.1 = some (cf, kf, fi, f) := by
    rcases hr with hr | hr
    · rw [hr]; exact hi
    · exact u_same (hts _ hr) _ hi
  have hst : f.isStatic = false := (u_facts hfc hkC (u_lays hts (jcl_in κ _ hc) hk) hi).1
  have hv : cell.slots[f.slot]? = some (V κ k a) := by rw [hsl]; exact q4 k (by rw [hn]; exact hk)
  have hne : cell.vm ≠ .unknown := by rw [q3]; exact fun h => by cases h
  rcases hl with hl | ⟨host, hl⟩
  · exact W.getf hx hb hown (hts _ hl) hi2 hst q1 hne hv rfl rfl hd kk
  · exact va_Wgetf hx hb hown (hts _ hl) hi2 hst q1 hne hv rfl rfl hd kk
theorem jput_sound (hx : p.tables.exec = Jvm.exec) (hb : c.code = cc) (hW : jW s) (hK : jK D E s) (hown : s.vm.findClass own = some m.cls) {C : String} {T : u_T} {N : Nat} (hc : vwCl[κ]? = some (C, T, N)) (hk : k < N) (hL : jLk own idx (T k).1 (T k).2.1 (T k).2.2.1) (hfin : (T k).2.2.2 = false ∨ (meth.name = "<init>" ∧ (T k).1 = own)) {v : Value} (hv : jfits (jty κ k) v = true) (hS : jSim D E H (t, u, g, V)) (hS0 : va_S A s.heap H locs) (hA : A a) (hg : g a = some (κ, n)) (hκ : κ < 50) (hd : decode cc pc = .ok (.putfield idx, 3))
    (kk : ∀ (H1 : Heap) (locs1 : List Loc), jSim D E H1 (t, u, g, jset V κ k a v) → va_S A s.heap H1 locs1 → W p l e R s m args below meth c H1 locs1 cells slots Q (F0 m (pc + 3) ls rest)) : W p l e R s m args below meth c H locs cells slots Q (F0 m pc ls (v :: .ref a :: rest)) := by
  obtain ⟨hn, cell, q1, q2, q3, q4⟩ := jcell_obj (hS.2 a κ n hg) hκ hc
  have hnN : N = n := hn.symm
  subst hnN
  obtain ⟨hSl, hfc, kC, hkC, hkind⟩ := hK.1 κ _ hc
  obtain ⟨cf, kf, fi, f, hi, hsl⟩ := hSl k hk
  have hts : ∀ w ∈ jwords, w.before args s = true := fun w h => hW w h args
  have hin := jcl_in κ _ hc
  have hap : ∀ x y, x < N → y < N → x ≠ y → (D.2 κ) x ≠ (D.2 κ) y := by
    intro x y hx hy hne
    obtain ⟨_, _, _, fa, hia, ea⟩ := hSl x hx
    obtain ⟨_, _, _, fb, hib, eb⟩ := hSl y hy
    rw [← ea, ← eb]
    refine u_apart (u_lays hts hin hx) (u_lays hts hin hy) hia hib ?_
    rw [(State.fieldFound?_type hia (jcl_ty κ _ hc x hx)).1, (State.fieldFound?_type hib (jcl_ty κ _ hc y hy)).1]
    exact jcl_nm κ _ hc x hx y hy hne
  obtain ⟨ref, hl, hr⟩ := hL
  have hi2 : s.fieldFound? ref (T k).2.1 (T k).2.2.1 = some (cf, kf, fi, f) := by
    rcases hr with hr | hr
    · rw [hr]; exact hi
    · exact u_same (hts _ hr) _ hi
  have hst : f.isStatic = false := (u_facts hfc hkC (u_lays hts hin hk) hi).1
  have hlt : f.slot < cell.slots.size := by rw [hsl]; exact k2_hasslot (q4 k hk)
  obtain ⟨hnw, hft⟩ := jfits_ok hv
  have hne : cell.vm ≠ .unknown := by rw [q3]; exact fun h => by cases h
  have ha : a < H.size := (Array.getElem?_eq_some_iff.mp q1).1
  have hfit := u_fits hfc hkC hkind (u_lays hts hin hk) hi (jcl_ty κ _ hc k hk) hnw hft
  have hfin2 : hasFlag f.accessFlags Acc.final = false ∨ (m.cls = cf ∧ meth.name = "<init>") := by
    have hlay := hts _ (hin _ (u_in_lay hk))
    unfold u_lay at hlay
    by_cases hf : (T k).2.2.2 = true
    · rw [if_pos hf] at hlay
      rcases hfin with h | ⟨h1, h2⟩
      · rw [h] at hf; cases hf
      · refine Or.inr ⟨?_, h1⟩
        obtain ⟨_, _, c', _, _, _, -, -, hf', -, -, -, hown2, -⟩ := Cond.laysFinal_spec hlay
        have e1 : c' = cf := by have := hi.symm.trans hf'; simp at this; exact this.1.symm
        rw [h2] at hown2
        rw [← e1]; exact Option.some.inj (hown.symm.trans hown2)
    · rw [if_neg hf] at hlay
      exact Or.inl (u_store hfc hkC hkind hlay hi (jcl_ty κ _ hc k hk) hnw hft).1
  have fin : W p l e R s m args below meth c (H.setIfInBounds a (cell.setSlot f.slot v)) (locs ++ [⟨a, f.slot⟩]) cells slots Q (F0 m (pc + 3) ls rest) := by
    have e1 : (H.setIfInBounds a (cell.setSlot f.slot v))[a]? = some (cell.setSlot f.slot v) := by simp [Array.getElem?_setIfInBounds, ha]
    have e2 : (H.setIfInBounds a (cell.setSlot f.slot v)).size = H.size := by simp
    have e3 : ∀ q : Nat, q ≠ a → (H.setIfInBounds a (cell.setSlot f.slot v))[q]? = H[q]? := fun q hq => by simp [Array.getElem?_setIfInBounds, Ne.symm hq]
    refine kk _ _ (jSim_put hS hg (Or.inl ⟨hκ, _, hc, rfl, ?_⟩) e2 e3 (fun κ' k' b hb => ?_)) (hS0.put e2 e3 hA)
    · refine t_OB.to (V := updV (fun k => V κ k a) k v) ⟨_, e1, q2, q3, by rw [hsl]; exact t_set q4 hap hk v⟩ (fun j _ => ?_)
      rw [jset_ap]
      simp only [updV, true_and, and_true]
    · rw [jset_ap, if_neg (fun h => hb h.2.2)]
  rcases hl with hl | ⟨host, hl⟩
  · exact W.putf hx hb hown (hts _ hl) hi2 hst hfin2 q1 hne hlt hfit.1 (by rw [q3, q2]; exact hfit.2) rfl rfl hd fin
  · exact va_Wputf hx hb hown (hts _ hl) hi2 hst hfin2 q1 hne hlt hfit.1 (by rw [q3, q2]; exact hfit.2) rfl rfl hd fin
theorem jS_push {H1 : Heap} (h : va_S A s.heap H locs) (hz : H1.size = H.size + 1) (ho : ∀ q : Nat, q < H.size → H1[q]? = H[q]?) : va_S A s.heap H1 locs :=
  ⟨by rw [hz]; exact Nat.le_succ_of_le h.1, fun q h1 h2 => (ho q (Nat.lt_of_lt_of_le h1 h.1)).trans (h.2.1 q h1 h2), h.2.2⟩
theorem jnew_sound (hx : p.tables.exec = Jvm.exec) (hb : c.code = cc) (hW : jW s) (hK : jK D E s) (hown : s.vm.findClass own = some m.cls) {C : String} {T : u_T} {N : Nat} (hc : vwCl[κ]? = some (C, T, N)) (hκ : κ < 50) {w : Nat} (hcl : Cond.classLink own idx C ∈ jwords) (hins : Cond.instantiable C w ∈ jwords) (hini : Cond.initialized C ∈ jwords) (hS : jSim D E H (t, u, g, V)) (hS0 : va_S A s.heap H locs) (hcells : cells + 1 ≤ R.cells) (hslots : slots + w ≤ R.slots) (hd : decode cc pc = .ok (.new idx, 3))
    (kk : ∀ H1 : Heap, jSim D E H1 (t + 1, u + w, jgset g t (κ, N), jput V κ t (fun k => defaultValue (jty κ k))) → va_S A s.heap H1 locs → W p l e R s m args below meth c H1 locs (cells + 1) (slots + w) Q (F0 m (pc + 3) ls (.ref t :: rest))) : W p l e R s m args below meth c H locs cells slots Q (F0 m pc ls rest) := by
  have hts : ∀ w ∈ jwords, w.before args s = true := fun w h => hW w h args
  have hKn := hK.1 κ _ hc
  have hsz : H.size = t := hS.1
  refine W.newcK hx hb hown (hts _ hcl) (hts _ hins) (hts _ hini) (g := F0 m pc ls rest) rfl hd hcells hslots hKn.2.1 hsz fun H' kC h1 h2 h3 h4 => ?_
  refine kk H' (jSim_push hS (Or.inl ⟨hκ, _, hc, rfl, ?_⟩) h3 h4 (fun κ' k' b hb => ?_)) (jS_push hS0 (by rw [h3, hsz]) (fun q hq => h4 q (by rw [← hsz]; exact hq)))
  · refine t_OB.to (u_born (jty κ) hts (jcl_in κ _ hc) hKn h1 h2 (jcl_ty κ _ hc)) (fun j _ => ?_)
    rw [jput_ap, if_pos ⟨rfl, rfl⟩]
  · rw [jput_ap, if_neg (fun h => hb h.2)]
theorem jarr_of (hK : jK D E s) {ty : FieldType} (hk : jkt κ = some ty) {cell : Cell} (h1 : cell.cls = E κ) (h3 : ∀ q, cell.vm ≠ .statics q) : s.isArrayOf cell ty := by
  obtain ⟨⟨kA, comp, k1, k2, -⟩, -⟩ := hK.2 κ ty hk
  exact ⟨h3, kA, by rw [h1]; exact k1, comp, k2⟩
theorem jlen_sound (hx : p.tables.exec = Jvm.exec) (hb : c.code = cc) (hK : jK D E s) (hS : jSim D E H (t, u, g, V)) (hg : g a = some (κ, n)) (hκ : 50 ≤ κ) (hd : decode cc pc = .ok (.arraylength, 1))
    (kk : W p l e R s m args below meth c H locs cells slots Q (F0 m (pc + 1) ls (.int (Int32.ofNat n) :: rest))) : W p l e R s m args below meth c H locs cells slots Q (F0 m pc ls (.ref a :: rest)) := by
  rcases hS.2 a κ n hg with ⟨h1, -⟩ | ⟨-, ⟨ty, hty⟩, ⟨cell, h1, h2, h3, h4, h5, h6⟩, -⟩
  · omega
  · exact W.alen (n := Int32.ofNat n) hx hb h1 (jarr_of hK hty h2 h4) (by rw [h5] <;> rfl) rfl rfl hd kk
/-- an index within -/
def jin (j : Int32) (n : Nat) : Bool := decide (¬ j < 0) && decide (j.toNatClampNeg < n)
theorem jin_ok {j : Int32} {n : Nat} (h : jin j n = true) : ¬ j < 0 ∧ j.toNatClampNeg < n := by
  unfold jin at h
  simp only [Bool.and_eq_true, decide_eq_true_eq] at h
  exact h
theorem jin_no {j : Int32} {n z : Nat} (h : jin j n = true) (hz : z = n) : ¬ (j < 0 ∨ z ≤ j.toNatClampNeg) := by
  obtain ⟨h1, h2⟩ := jin_ok h
  subst hz
  rintro (q | q)
  · exact h1 q
  · omega
theorem jald_sound (hx : p.tables.exec = Jvm.exec) (hb : c.code = cc) (hK : jK D E s) (hS : jSim D E H (t, u, g, V)) (hg : g a = some (κ, n)) (hκ : 50 ≤ κ) {j : Int32} (hj : jin j n = true) {i : ClassFile.Instr} (hd : decode cc pc = .ok (i, 1)) (hi : (jkt κ = some .int ∧ i = .iaload) ∨ (jkt κ = some .long ∧ i = .laload) ∨ (jkt κ = some .boolean ∧ i = .baload) ∨ (∃ ty, jkt κ = some ty ∧ ty.isReference = true ∧ i = .aaload))
    (kk : W p l e R s m args below meth c H locs cells slots Q (F0 m (pc + 1) ls (V κ j.toNatClampNeg a :: rest))) : W p l e R s m args below meth c H locs cells slots Q (F0 m pc ls (.int j :: .ref a :: rest)) := by
  rcases hS.2 a κ n hg with ⟨h1, -⟩ | ⟨-, -, ⟨cell, h1, h2, h3, h4, h5, h6⟩, -⟩
  · omega
  · have hv := h6 _ (jin_ok hj).2
    have hno := jin_no hj h5
    rcases hi with ⟨ht, rfl⟩ | ⟨ht, rfl⟩ | ⟨ht, rfl⟩ | ⟨ty, ht, hr, rfl⟩
    · exact W.iald hx hb h1 (jarr_of hK ht h2 h4) h3 hno hv rfl rfl hd kk
    · exact W.lald hx hb h1 (jarr_of hK ht h2 h4) h3 hno hv rfl rfl hd kk
    · exact W.zald hx hb h1 (jarr_of hK ht h2 h4) h3 hno hv rfl rfl hd kk
    · exact W.aald hx hb h1 (jarr_of hK ht h2 h4) hr h3 hno hv rfl rfl hd kk
theorem jast_fin {j : Nat} {v : Value} (hS : jSim D E H (t, u, g, V)) (hS0 : va_S A s.heap H locs) (hA : A a) (hg : g a = some (κ, n)) (hκ : 50 ≤ κ) (hk : ∃ ty, jkt κ = some ty) {H1 : Heap} (e : H1[a]? = some ((arrV (E κ) n (fun k => V κ k a)).setSlot j v)) (z : H1.size = H.size) (o : ∀ q : Nat, q ≠ a → H1[q]? = H[q]?) :
    jSim D E H1 (t, u, g, jset V κ j a v) ∧ va_S A s.heap H1 (locs ++ [⟨a, j⟩]) := by
  rw [arrV_store] at e
  refine ⟨jSim_put hS hg (jcell_ofV hκ hk e (fun k => ?_)) z o (fun κ' k' b hb => ?_), hS0.put z o hA⟩
  · rw [jset_ap]
    simp only [updV, true_and, and_true]
  · rw [jset_ap, if_neg (fun h => hb h.2.2)]
theorem jiast_sound (hx : p.tables.exec = Jvm.exec) (hb : c.code = cc) (hK : jK D E s) (hS : jSim D E H (t, u, g, V)) (hS0 : va_S A s.heap H locs) (hA : A a) (hg : g a = some (κ, n)) (hκ : 50 ≤ κ) (hκ2 : κ < 90) (hk : jkt κ = some .int) {j x : Int32} (hj : jin j n = true) (hd : decode cc pc = .ok (.iastore, 1))
    (kk : ∀ (H1 : Heap) (locs1 : List Loc), jSim D E H1 (t, u, g, jset V κ j.toNatClampNeg a (.int x)) → va_S A s.heap H1 locs1 → W p l e R s m args below meth c H1 locs1 cells slots Q (F0 m (pc + 1) ls rest)) : W p l e R s m args below meth c H locs cells slots Q (F0 m pc ls (.int x :: .int j :: .ref a :: rest)) := by
  have h1 := jcell_arrV (hS.2 a κ n hg) hκ hκ2
  have h5 := arrV_size (E κ) n (fun k => V κ k a)
  refine W.iast hx hb h1 (jarr_of hK hk rfl (fun q h => by cases h)) (fun h => by cases h) (jin_no hj h5) rfl rfl hd fun H1 e z o => ?_
  obtain ⟨r1, r2⟩ := jast_fin hS hS0 hA hg hκ ⟨_, hk⟩ e z o
  exact kk H1 _ r1 r2
theorem jlast_sound (hx : p.tables.exec = Jvm.exec) (hb : c.code = cc) (hK : jK D E s) (hS : jSim D E H (t, u, g, V)) (hS0 : va_S A s.heap H locs) (hA : A a) (hg : g a = some (κ, n)) (hκ : 50 ≤ κ) (hκ2 : κ < 90) (hk : jkt κ = some .long) {j : Int32} {x : Int64} (hj : jin j n = true) (hd : decode cc pc = .ok (.lastore, 1))
    (kk : ∀ (H1 : Heap) (locs1 : List Loc), jSim D E H1 (t, u, g, jset V κ j.toNatClampNeg a (.long x)) → va_S A s.heap H1 locs1 → W p l e R s m args below meth c H1 locs1 cells slots Q (F0 m (pc + 1) ls rest)) : W p l e R s m args below meth c H locs cells slots Q (F0 m pc ls (.long x :: .int j :: .ref a :: rest)) := by
  have h1 := jcell_arrV (hS.2 a κ n hg) hκ hκ2
  have h5 := arrV_size (E κ) n (fun k => V κ k a)
  refine W.last hx hb h1 (jarr_of hK hk rfl (fun q h => by cases h)) (fun h => by cases h) (jin_no hj h5) rfl rfl hd fun H1 e z o => ?_
  obtain ⟨r1, r2⟩ := jast_fin hS hS0 hA hg hκ ⟨_, hk⟩ e z o
  exact kk H1 _ r1 r2
theorem jzast_sound (hx : p.tables.exec = Jvm.exec) (hb : c.code = cc) (hK : jK D E s) (hS : jSim D E H (t, u, g, V)) (hS0 : va_S A s.heap H locs) (hA : A a) (hg : g a = some (κ, n)) (hκ : 50 ≤ κ) (hκ2 : κ < 90) (hk : jkt κ = some .boolean) {j x : Int32} (hx2 : jfits .boolean (.int x) = true) (hj : jin j n = true) (hd : decode cc pc = .ok (.bastore, 1))
    (kk : ∀ (H1 : Heap) (locs1 : List Loc), jSim D E H1 (t, u, g, jset V κ j.toNatClampNeg a (.int x)) → va_S A s.heap H1 locs1 → W p l e R s m args below meth c H1 locs1 cells slots Q (F0 m (pc + 1) ls rest)) : W p l e R s m args below meth c H locs cells slots Q (F0 m pc ls (.int x :: .int j :: .ref a :: rest)) := by
  have h1 := jcell_arrV (hS.2 a κ n hg) hκ hκ2
  have h5 := arrV_size (E κ) n (fun k => V κ k a)
  refine W.zast hx hb h1 (jarr_of hK hk rfl (fun q h => by cases h)) (fun h => by cases h) (jin_no hj h5) rfl rfl hd fun H1 e z o => ?_
  rw [(jfits_ok hx2).1] at e
  obtain ⟨r1, r2⟩ := jast_fin hS hS0 hA hg hκ ⟨_, hk⟩ e z o
  exact kk H1 _ r1 r2
/-- an object of class number κv into an array of references -/
theorem jaast_sound (hx : p.tables.exec = Jvm.exec) (hb : c.code = cc) (hW : jW s) (hK : jK D E s) (hS : jSim D E H (t, u, g, V)) (hS0 : va_S A s.heap H locs) (hA : A a) (hg : g a = some (κ, n)) (hκ : 50 ≤ κ) (hκ2 : κ < 90) {C0 : String} (hk : jkt κ = some (.object C0)) {v κv nv : Nat} (hgv : g v = some (κv, nv)) (hκv : κv < 50) {q : vw_C} (hq : vwCl[κv]? = some q) (hca : q.1 = C0 ∨ Cond.castable q.1 C0 ∈ jwords) {j : Int32} (hj : jin j n = true) (hd : decode cc pc = .ok (.aastore, 1))
    (kk : ∀ (H1 : Heap) (locs1 : List Loc), jSim D E H1 (t, u, g, jset V κ j.toNatClampNeg a (.ref v)) → va_S A s.heap H1 locs1 → W p l e R s m args below meth c H1 locs1 cells slots Q (F0 m (pc + 1) ls rest)) : W p l e R s m args below meth c H locs cells slots Q (F0 m pc ls (.ref v :: .int j :: .ref a :: rest)) := by
  have h1 := jcell_arrV (hS.2 a κ n hg) hκ hκ2
  have h5 := arrV_size (E κ) n (fun k => V κ k a)
  obtain ⟨-, cv, g1, g2, g3, -⟩ := jcell_obj (hS.2 v κv nv hgv) hκv hq
  obtain ⟨⟨kA, comp, k1, k2, k3⟩, -⟩ := hK.2 κ _ hk
  have hcls := (hK.1 κv _ hq).2
  obtain ⟨hfc, kC, hkC, -⟩ := hcls
  have hcomp := k3 C0 rfl
  obtain ⟨kE, hkE, -⟩ := Vm.findClass_spec hcomp
  have hasg : s.vm.assignable (D.1 κv) comp = true := by
    rcases hca with h | h
    · rw [h] at hfc
      cases hfc.symm.trans hcomp
      exact va_asg _ _
    · obtain ⟨c0, t1, f1, f2, f3⟩ := Cond.castable_spec (hW _ h args)
      cases hfc.symm.trans f1
      cases hcomp.symm.trans f2
      exact f3
  refine W.aast hx hb h1 (fun q h => by cases h) (fun h => by cases h) k1 k2 rfl hkE ⟨(jin_ok hj).1, by rw [h5]; exact (jin_ok hj).2⟩ g1 (fun q h => by rw [g3] at h; cases h) (by rw [g2]; exact hkC) (by rw [g2]; exact hasg) rfl rfl hd fun H1 e z o => ?_
  obtain ⟨r1, r2⟩ := jast_fin hS hS0 hA hg hκ ⟨_, hk⟩ e z o
  exact kk H1 _ r1 r2
theorem jaastN_sound (hx : p.tables.exec = Jvm.exec) (hb : c.code = cc) (hK : jK D E s) (hS : jSim D E H (t, u, g, V)) (hS0 : va_S A s.heap H locs) (hA : A a) (hg : g a = some (κ, n)) (hκ : 50 ≤ κ) (hκ2 : κ < 90) {C0 : String} (hk : jkt κ = some (.object C0)) {j : Int32} (hj : jin j n = true) (hd : decode cc pc = .ok (.aastore, 1))
    (kk : ∀ (H1 : Heap) (locs1 : List Loc), jSim D E H1 (t, u, g, jset V κ j.toNatClampNeg a .null) → va_S A s.heap H1 locs1 → W p l e R s m args below meth c H1 locs1 cells slots Q (F0 m (pc + 1) ls rest)) : W p l e R s m args below meth c H locs cells slots Q (F0 m pc ls (.null :: .int j :: .ref a :: rest)) := by
  have h1 := jcell_arrV (hS.2 a κ n hg) hκ hκ2
  have h5 := arrV_size (E κ) n (fun k => V κ k a)
  refine va_WaastN (C := C0) hx hb h1 (jarr_of hK hk rfl (fun q h => by cases h)) (fun h => by cases h) (jin_no hj h5) rfl rfl hd fun H1 e z o => ?_
  obtain ⟨r1, r2⟩ := jast_fin hS hS0 hA hg hκ ⟨_, hk⟩ e z o
  exact kk H1 _ r1 r2
theorem jnewa_sound (hx : p.tables.exec = Jvm.exec) (hb : c.code = cc) (hW : jW s) (hK : jK D E s) {aty : ArrayType} (hk : jkt κ = some (newarray.typeOf aty)) (hκ : 50 ≤ κ) (hκ2 : κ ≠ 94) (hw : Cond.arrayClass (newarray.typeOf aty) ∈ jwords) (hS : jSim D E H (t, u, g, V)) (hS0 : va_S A s.heap H locs) {x : Int32} (h0 : ¬ x < 0) (hbytes : x.toNatClampNeg * componentBytes (newarray.typeOf aty) ≤ 536870912) (hcells : cells + 1 ≤ R.cells) (hslots : slots + x.toNatClampNeg ≤ R.slots) (hd : decode cc pc = .ok (.newarray aty, 2))
    (kk : ∀ H1 : Heap, jSim D E H1 (t + 1, u + x.toNatClampNeg, jgset g t (κ, x.toNatClampNeg), jput V κ t (fun _ => defaultValue (newarray.typeOf aty))) → va_S A s.heap H1 locs → W p l e R s m args below meth c H1 locs (cells + 1) (slots + x.toNatClampNeg) Q (F0 m (pc + 2) ls (.ref t :: rest))) : W p l e R s m args below meth c H locs cells slots Q (F0 m pc ls (.int x :: rest)) := by
  have hsz : H.size = t := hS.1
  subst hsz
  refine W.newa hx hb (hW _ hw args) (g := F0 m pc ls (.int x :: rest)) rfl hd rfl h0 hbytes hcells hslots fun cA kA comp h1 h2 h3 => ?_
  have hcA : cA = E κ := Option.some.inj (h1.symm.trans ((hK.2 κ _ hk).2 hκ2))
  subst hcA
  have e1 : (H.push { cls := E κ, slots := Array.replicate x.toNatClampNeg (defaultValue (newarray.typeOf aty)), vm := .none })[H.size]? = some (arrV (E κ) x.toNatClampNeg (fun _ => defaultValue (newarray.typeOf aty))) := by rw [← arrV_new]; simp
  have e2 : ∀ q : Nat, q < H.size → (H.push { cls := E κ, slots := Array.replicate x.toNatClampNeg (defaultValue (newarray.typeOf aty)), vm := .none })[q]? = H[q]? := fun q hq => by rw [Array.getElem?_push, if_neg (Nat.ne_of_lt hq)]
  exact kk _ (jSim_push hS (jcell_ofV hκ ⟨_, hk⟩ e1 (fun k => by rw [jput_ap, if_pos ⟨rfl, rfl⟩])) (by simp) e2 (fun κ' k' b hb => by rw [jput_ap, if_neg (fun h => hb h.2)])) (jS_push hS0 (by simp) e2)
theorem janew_sound (hx : p.tables.exec = Jvm.exec) (hb : c.code = cc) (hW : jW s) (hK : jK D E s) (hown : s.vm.findClass own = some m.cls) {C0 : String} (hk : jkt κ = some (.object C0)) (hκ : 50 ≤ κ) (hκ2 : κ ≠ 94) (hl : Cond.classLink own idx C0 ∈ jwords) (hw : Cond.arrayOver (.object C0) ∈ jwords) (hS : jSim D E H (t, u, g, V)) (hS0 : va_S A s.heap H locs) {x : Int32} (h0 : ¬ x < 0) (hbytes : x.toNatClampNeg * 4 ≤ 536870912) (hcells : cells + 1 ≤ R.cells) (hslots : slots + x.toNatClampNeg ≤ R.slots) (hd : decode cc pc = .ok (.anewarray idx, 3))
    (kk : ∀ H1 : Heap, jSim D E H1 (t + 1, u + x.toNatClampNeg, jgset g t (κ, x.toNatClampNeg), jput V κ t (fun _ => .null)) → va_S A s.heap H1 locs → W p l e R s m args below meth c H1 locs (cells + 1) (slots + x.toNatClampNeg) Q (F0 m (pc + 3) ls (.ref t :: rest))) : W p l e R s m args below meth c H locs cells slots Q (F0 m pc ls (.int x :: rest)) := by
  have hsz : H.size = t := hS.1
  subst hsz
  refine W.anew hx hb hown (hW _ hl args) (hW _ hw args) (g := F0 m pc ls (.int x :: rest)) rfl hd rfl h0 hbytes hcells hslots fun cA kA comp h1 h2 h3 h4 => ?_
  have hcA : cA = E κ := Option.some.inj (h1.symm.trans ((hK.2 κ _ hk).2 hκ2))
  subst hcA
  have e1 : (H.push { cls := E κ, slots := Array.replicate x.toNatClampNeg (.null), vm := .none })[H.size]? = some (arrV (E κ) x.toNatClampNeg (fun _ => .null)) := by rw [← arrV_new]; simp
  have e2 : ∀ q : Nat, q < H.size → (H.push { cls := E κ, slots := Array.replicate x.toNatClampNeg (.null), vm := .none })[q]? = H[q]? := fun q hq => by rw [Array.getElem?_push, if_neg (Nat.ne_of_lt hq)]
  exact kk _ (jSim_push hS (jcell_ofV hκ ⟨_, hk⟩ e1 (fun k => by rw [jput_ap, if_pos ⟨rfl, rfl⟩])) (by simp) e2 (fun κ' k' b hb => by rw [jput_ap, if_neg (fun h => hb h.2)])) (jS_push hS0 (by simp) e2)
/-- a cast of an object -/
theorem jcast_sound (hx : p.tables.exec = Jvm.exec) (hb : c.code = cc) (hW : jW s) (hK : jK D E s) (hown : s.vm.findClass own = some m.cls) {q : vw_C} (hq : vwCl[κ]? = some q) (hκ : κ < 50) {nm : String} (hl : Cond.classLink own idx nm ∈ jwords) (hca : q.1 = nm ∨ Cond.castable q.1 nm ∈ jwords) (hS : jSim D E H (t, u, g, V)) (hg : g a = some (κ, n)) (hd : decode cc pc = .ok (.checkcast idx, 3))
    (kk : W p l e R s m args below meth c H locs cells slots Q (F0 m (pc + 3) ls (.ref a :: rest))) : W p l e R s m args below meth c H locs cells slots Q (F0 m pc ls (.ref a :: rest)) := by
  obtain ⟨-, cell, q1, q2, q3, -⟩ := jcell_obj (hS.2 a κ n hg) hκ hq
  have hfc := (hK.1 κ _ hq).2.1
  have hst : cell.vm.isStatics = false := by rw [q3]; rfl
  rcases hca with h | h
  · intro T hT X
    obtain ⟨vm', X', st⟩ := X.checkcastYes hx hown (hW _ hl args) (by rw [hT]; exact q1) hst (by rw [← h]; exact hfc) (by rw [q2]; exact va_asg _ _) (g := F0 m pc ls (.ref a :: rest)) rfl rfl (by rw [hb]; exact hd)
    obtain ⟨t', a1, b1⟩ := kk (T.setVm vm') hT X'
    exact ⟨t', st t' a1, b1⟩
  · exact va_castY hx hb hown (hW _ hl args) (va_Nw.of rfl (hW _ h args)) ⟨cell, q1, hst, by rw [q2]; exact hfc⟩ hd kk
/-- a cast of an array to its own class -/
theorem jcastA_sound (hx : p.tables.exec = Jvm.exec) (hb : c.code = cc) (hW : jW s) (hK : jK D E s) (hown : s.vm.findClass own = some m.cls) {ty : FieldType} (hk : jkt κ = some ty) (hκ : 50 ≤ κ) (hκ2 : κ ≠ 94) (hl : Cond.classLink own idx ("[" ++ ty.toString) ∈ jwords) (hS : jSim D E H (t, u, g, V)) (hg : g a = some (κ, n)) (hd : decode cc pc = .ok (.checkcast idx, 3))
    (kk : W p l e R s m args below meth c H locs cells slots Q (F0 m (pc + 3) ls (.ref a :: rest))) : W p l e R s m args below meth c H locs cells slots Q (F0 m pc ls (.ref a :: rest)) := by
  obtain ⟨cell, h1, h2, h3, h4, h5, h6⟩ := jcell_arr (hS.2 a κ n hg) hκ
  have hst : cell.vm.isStatics = false := by
    cases hv : cell.vm <;> first | rfl | exact absurd hv (h4 _)
  intro T hT X
  obtain ⟨vm', X', st⟩ := X.checkcastYes hx hown (hW _ hl args) (by rw [hT]; exact h1) hst ((hK.2 κ _ hk).2 hκ2) (by rw [h2]; exact va_asg _ _) (g := F0 m pc ls (.ref a :: rest)) rfl rfl (by rw [hb]; exact hd)
  obtain ⟨t', a1, b1⟩ := kk (T.setVm vm') hT X'
  exact ⟨t', st t' a1, b1⟩
/-- System.arraycopy between arrays of one type -/
theorem jcopy_sound (hx : p.tables.exec = Jvm.exec) (hb : c.code = cc) (hml : c.maxLocals = ls.size) (hW : jW s) (hK : jK D E s) (hown : s.vm.findClass own = some m.cls) (hl : Cond.methodLink own idx arraycopyName ∈ jwords) (hnat : Cond.native arraycopyName ∈ jwords) (hstat : Cond.static arraycopyName ∈ jwords) (hini : Cond.initialized "java/lang/System" ∈ jwords)
    (hS : jSim D E H (t, u, g, V)) (hS0 : va_S A s.heap H locs) (hA : A a) {a0 κ0 n0 : Nat} (hg0 : g a0 = some (κ0, n0)) (hκ0 : 50 ≤ κ0) (hg : g a = some (κ, n)) (hκ : 50 ≤ κ) (hκ2 : κ < 90) {ty : FieldType} (hk0 : jkt κ0 = some ty) (hk : jkt κ = some ty) {sp dp x : Int32} (h1 : ¬ sp < 0) (h2 : ¬ dp < 0) (h3 : ¬ x < 0) (h4 : sp.toNatClampNeg + x.toNatClampNeg ≤ n0) (h5 : dp.toNatClampNeg + x.toNatClampNeg ≤ n)
    (hfit : ∀ i, i < x.toNatClampNeg → fits ty (V κ0 (sp.toNatClampNeg + i) a0) = true) (hel : ∀ i, i < x.toNatClampNeg → ∀ y : Nat, V κ0 (sp.toNatClampNeg + i) a0 = .ref y → ∃ (C0 : String) (κy ny : Nat) (q : vw_C), ty = .object C0 ∧ g y = some (κy, ny) ∧ κy < 50 ∧ vwCl[κy]? = some q ∧ (q.1 = C0 ∨ Cond.castable q.1 C0 ∈ jwords))
    (hframes : 1 ≤ R.frames) (hlocals : (rest.map fun v => v.category).sum + (nativeFrameWords "java/lang/System" "arraycopy" 5 + 11) ≤ R.locals) (hd : decode cc pc = .ok (.invokestatic idx, 3))
    (kk : ∀ (H1 : Heap) (locs1 : List Loc), jSim D E H1 (t, u, g, jput V κ a (va_cpy (fun k => V κ0 k a0) (fun k => V κ k a) sp.toNatClampNeg dp.toNatClampNeg x.toNatClampNeg)) → va_S A s.heap H1 locs1 → W p l e R s m args below meth c H1 locs1 cells slots Q (F0 m (pc + 3) ls rest)) : W p l e R s m args below meth c H locs cells slots Q (F0 m pc ls (.int x :: .int dp :: .ref a :: .int sp :: .ref a0 :: rest)) := by
  have nn : ∀ z : Int32, ¬ z < 0 → z.toInt = (z.toNatClampNeg : Int) := by
    intro z hz
    have hz0 : (0 : Int) ≤ z.toInt := by
      have := Int32.not_lt.mp hz
      simpa using Int32.le_iff_toInt_le.mp this
    show z.toInt = ((z.toInt.toNat : Nat) : Int)
    omega
  obtain ⟨cs, c1, c2, c3, c4, c5, c6⟩ := jcell_arr (hS.2 a0 κ0 n0 hg0) hκ0
  have hc1 := jcell_arrV (hS.2 a κ n hg) hκ hκ2
  obtain ⟨⟨k0, cm0, hk0c, hkk0, -⟩, -⟩ := hK.2 κ0 _ hk0
  obtain ⟨⟨k1, cm1, hk1c, hkk1, hcm1⟩, -⟩ := hK.2 κ _ hk
  have hget : ∀ i, i < x.toNatClampNeg → cs.slots.getD (sp.toNatClampNeg + i) .null = V κ0 (sp.toNatClampNeg + i) a0 := by
    intro i hi
    rw [Array.getD_eq_getD_getElem?, c6 _ (by omega)]
    rfl
  intro T hT X
  obtain ⟨vm', X', step⟩ := X.arraycopy hx hown (hW _ hl args) (hW _ hnat args) (hW _ hstat args) (hW _ hini args) (src := a0) (dst := a) (cs := cs) (cd := arrV (E κ) n (fun k => V κ k a)) (srcPos := sp) (destPos := dp) (n := x) (by rw [hT]; exact c1) (by rw [hT]; exact hc1)
    c4 (fun _ h => by cases h) c3 (fun h => by cases h) (by rw [c2]; exact hk0c) hk1c hkk0 hkk1 (by simp) h1 h2 h3
    (by rw [nn sp h1, nn x h3, c5]; omega)
    (by rw [nn dp h2, nn x h3, arrV_size]; omega)
    (fun vm₁ hal i hi => by
      refine ⟨by rw [hget i hi]; exact hfit i hi, ?_⟩
      rw [hget i hi]
      cases hv : V κ0 (sp.toNatClampNeg + i) a0 with
      | ref y =>
        obtain ⟨C0, κy, ny, q, hty, hgy, hκy, hqy, hca⟩ := hel i hi y hv
        obtain ⟨-, cv, g1, g2, g3, -⟩ := jcell_obj (hS.2 y κy ny hgy) hκy hqy
        obtain ⟨hfc, kC, hkC, -⟩ := (hK.1 κy _ hqy).2
        have hcomp := hcm1 C0 hty
        obtain ⟨kE, hkE, -⟩ := Vm.findClass_spec hcomp
        have hasg : s.vm.assignable (D.1 κy) cm1 = true := by
          rcases hca with h | h
          · rw [h] at hfc
            cases hfc.symm.trans hcomp
            exact va_asg _ _
          · obtain ⟨c0, t1, f1, f2, f3⟩ := Cond.castable_spec (hW _ h args)
            cases hfc.symm.trans f1
            cases hcomp.symm.trans f2
            exact f3
        obtain ⟨kC', hkC', -⟩ := hal.2.2 _ _ hkC
        obtain ⟨kE', hkE', -⟩ := hal.2.2 _ _ hkE
        refine ⟨cv, (show T.heap[y]? = some cv by rw [hT]; exact g1), (fun q h => by rw [g3] at h; cases h), ⟨kC', by rw [g2]; exact hkC'⟩, ⟨kE', hkE'⟩, ?_⟩
        show vm₁.assignable _ _ = true
        rw [hal.assignable, g2]
        exact hasg
      | _ => exact trivial)
    (g := F0 m pc ls (.int x :: .int dp :: .ref a :: .int sp :: .ref a0 :: rest)) rfl (by rw [hml]) (rest := rest) rfl (by rw [hb]; exact hd) hframes (by show 2 * 0 + _ + _ ≤ _; omega)
  have e1 : copied cs (arrV (E κ) n (fun k => V κ k a)) sp dp x = arrV (E κ) n (va_cpy (fun k => V κ0 k a0) (fun k => V κ k a) sp.toNatClampNeg dp.toNatClampNeg x.toNatClampNeg) := va_copiedX (fun z => z) cs (E κ) (fun k => V κ0 k a0) (fun k => V κ k a) c6 h4
  rw [e1] at X' step
  have hlt : a < H.size := (Array.getElem?_eq_some_iff.mp hc1).1
  generalize hcell : arrV (E κ) n (va_cpy (fun k => V κ0 k a0) (fun k => V κ k a) sp.toNatClampNeg dp.toNatClampNeg x.toNatClampNeg) = cell at X' step
  have hheap : ((T.setVm vm').setCell a cell).heap = H.setIfInBounds a cell := by rw [← hT]; rfl
  have oa : (H.setIfInBounds a cell)[a]? = some cell := by simp [Array.getElem?_setIfInBounds, hlt]
  have oq : ∀ q : Nat, q ≠ a → (H.setIfInBounds a cell)[q]? = H[q]? := fun q hq => by simp [Array.getElem?_setIfInBounds, Ne.symm hq]
  obtain ⟨t', a1, b1⟩ := kk _ _ (jSim_put hS hg (jcell_ofV hκ ⟨_, hk⟩ (by rw [hcell]; exact oa) (fun k => by rw [jput_ap, if_pos ⟨rfl, rfl⟩])) (by simp) oq (fun κ' k' b hb => by rw [jput_ap, if_neg (fun h => hb h.2)])) ⟨by simp; exact hS0.1, fun q g1 g2 => by
      rw [oq q (fun e => g2 (by rw [e]; exact hA))]
      exact hS0.2.1 q g1 g2, fun q hq => by
      rcases List.mem_append.mp hq with h | h
      · exact hS0.2.2 q h
      · obtain ⟨z, -, hz⟩ := List.mem_map.mp h
        rw [← hz]
        exact hA⟩ _ hheap X'
  exact ⟨t', step t' a1, b1⟩
end JM
