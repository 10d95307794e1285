-- ===== soundness =====
def jZs (sv : Nat → Value) (A : Nat → Prop) (s : State) : Prop := ∀ (k : Nat) (C n d : String), jst k = some (C, n, d) → va_Z C n d (sv k) A s s.heap
def jMs (sv : Nat → Value) (s : State) : Prop := ∀ (k : Nat) (C : String), jmir k = some C → ∃ mi : Nat, sv k = .ref mi ∧ va_Mi C mi s
/-- the state's own: its tables' words, classes, statics, mirrors -/
def jU (sv : Nat → Value) (D : va_G) (E : Nat → ClassId) (A : Nat → Prop) (s : State) : Prop := jW s ∧ jK D E s ∧ jZs sv A s ∧ jMs sv s
def jCx (sv : Nat → Value) (D : va_G) (E : Nat → ClassId) (A : Nat → Prop) (p : Program) (s : State) (m : MethodId) (meth : Method) (c : Code) (μ : Nat) : Prop :=
  p.tables.exec = Jvm.exec ∧ c.code = jcode μ ∧ c.maxLocals = jmaxl μ ∧ s.vm.findClass (jy μ).cls = some m.cls ∧ meth.name = (jy μ).name ∧ meth.sig.returnType = jret μ ∧ meth.locks = false ∧ jU sv D E A s
theorem jMs_moved {sv : Nat → Value} {u U : State} (hvm : u.vm.Alike U.vm) (h : jMs sv u) : jMs sv U := fun k C hk => by
  obtain ⟨mi, h1, h2⟩ := h k C hk
  exact ⟨mi, h1, h2.moved hvm⟩
/-- the same of a later state, seen from a callee -/
theorem jU_call {sv : Nat → Value} {D : va_G} {E : Nat → ClassId} {A B : Nat → Prop} {s U : State} {H : Heap} {locs : List Loc} (h : jU sv D E A s) (hW : s.WarmedH U.vm) (hH : U.heap = H) (hS : va_S A s.heap H locs) (hAB : ∀ q, B q → A q) : jU sv D E B U := by
  obtain ⟨h1, h2, h3, h4⟩ := h
  refine ⟨jW_warm hW h1, jK_moved hW.alike h2, fun k C n d hk => ?_, jMs_moved hW.alike h4⟩
  rw [hH]
  exact (((h3 k C n d hk).moved hW.alike).kept (fun a ha hA => hS.2.1 a ha hA)).narrow hAB
/-- a contract's start and end -/
def jP (sv : Nat → Value) (D : va_G) (E : Nat → ClassId) (M : jM) (As : List Value) : Array Value → State → Prop := fun a U => a = As.toArray ∧ jSim D E U.heap M ∧ jU sv D E (jA M) U
def jQ (D : va_G) (E : Nat → ClassId) (M M1 : jM) (r : Option Value) : Array Value → State → Outcome → State → Prop := fun _ st o t => o = .returned r ∧ jSim D E t.heap M1 ∧ st.heap.size ≤ t.heap.size ∧ ∀ q : Nat, q < st.heap.size → ¬ jA M q → t.heap[q]? = st.heap[q]?
theorem jP_blind {sv : Nat → Value} {D : va_G} {E : Nat → ClassId} {M : jM} {As : List Value} : FrameBlind (jP sv D E M As) := by
  intro a U g mk h
  obtain ⟨h1, h2, h3⟩ := h
  exact ⟨h1, h2, jU_call (U := U.calling g mk a) h3 (State.WarmedH.refl U) rfl va_S.rf (fun _ h => h)⟩
section JS
variable {p : Program} {l : Launch} {e : Env} {R : Room} {s : State} {m : MethodId} {args : Array Value} {below : List Frame} {meth : Method} {c : Code} {H : Heap} {locs : List Loc} {cells slots : Nat} {Q : State → Prop}
variable {pc len μ : Nat} {ls : Array Slot} {st st' : List Value} {D : va_G} {E : Nat → ClassId} {A : Nat → Prop} {sv : Nat → Value} {i : ClassFile.Instr} {M M' : jM}
theorem jA_of {t u : Nat} {g : jG} {V : jV} {a κ n : Nat} (hA : ∀ q, jA (t, u, g, V) q → A q) (h : g a = some (κ, n)) (hκ : κ < 90) : A a := hA a (Or.inl ⟨κ, n, h, hκ⟩)
set_option maxHeartbeats 4000000 in
theorem jmem_sound (hC : jCx sv D E A p s m meth c μ) (hd : decode (jcode μ) pc = .ok (i, len)) (h : jmem sv μ pc i st M = some (len, st', M')) (hS : jSim D E H M) (hS0 : va_S A s.heap H locs) (hA : ∀ q, jA M q → A q) (hcells : cells + (M'.1 - M.1) ≤ R.cells) (hslots : slots + (M'.2.1 - M.2.1) ≤ R.slots)
    (kk : ∀ (H1 : Heap) (locs1 : List Loc), jSim D E H1 M' → va_S A s.heap H1 locs1 → W p l e R s m args below meth c H1 locs1 (cells + (M'.1 - M.1)) (slots + (M'.2.1 - M.2.1)) Q (F0 m (pc + len) ls st')) : W p l e R s m args below meth c H locs cells slots Q (F0 m pc ls st) := by
  obtain ⟨hx, hb, hml, hown, hnm, hret, hlk, hW, hK, hZ, hMi⟩ := hC
  obtain ⟨t, u, g, V⟩ := M
  have k0 : ∀ {st2 : List Value} {n : Nat}, len = n → st' = st2 → M' = (t, u, g, V) → W p l e R s m args below meth c H locs cells slots Q (F0 m (pc + n) ls st2) := by
    intro st2 n e1 e2 e3
    subst e1 e2 e3
    have := kk H locs hS hS0
    simpa using this
  have k1 : ∀ {V' : jV} {st2 : List Value} {n : Nat}, len = n → st' = st2 → M' = (t, u, g, V') → ∀ (H1 : Heap) (locs1 : List Loc), jSim D E H1 (t, u, g, V') → va_S A s.heap H1 locs1 → W p l e R s m args below meth c H1 locs1 cells slots Q (F0 m (pc + n) ls st2) := by
    intro V' st2 n e1 e2 e3 H1 locs1 r1 r2
    subst e1 e2 e3
    have := kk H1 locs1 r1 r2
    simpa using this
  have k2 : ∀ {g' : jG} {V' : jV} {st2 : List Value} {n w : Nat}, len = n → st' = st2 → M' = (t + 1, u + w, g', V') → (cells + 1 ≤ R.cells ∧ slots + w ≤ R.slots) ∧ ∀ H1 : Heap, jSim D E H1 (t + 1, u + w, g', V') → va_S A s.heap H1 locs → W p l e R s m args below meth c H1 locs (cells + 1) (slots + w) Q (F0 m (pc + n) ls st2) := by
    intro g' V' st2 n w e1 e2 e3
    subst e1 e2 e3
    have e4 : t + 1 - t = 1 := by omega
    have e5 : u + w - u = w := by omega
    dsimp only at hcells hslots kk
    rw [e4] at hcells
    rw [e5] at hslots
    refine ⟨⟨hcells, hslots⟩, fun H1 r1 r2 => ?_⟩
    have := kk H1 locs r1 r2
    rw [e4, e5] at this
    exact this
  unfold jmem at h
  dsimp only at h
  split at h
  · -- getfield
    split at h
    · rename_i κ k κ' n h1 h2
      split at h
      · rename_i hκ
        subst hκ
        cases h
        obtain ⟨C, T, N, hc, hκ, hk, hL⟩ := jfl_ok h1
        exact jget_sound hx hb hW hK hown hc hk hL hS h2 hκ hd (k0 rfl rfl rfl)
      · cases h
    · cases h
  · -- putfield
    split at h
    · rename_i κ k κ' n h1 h2
      split at h
      · rename_i hκ
        obtain ⟨hκ, hpf, hfit⟩ := hκ
        subst hκ
        cases h
        obtain ⟨C, T, N, hc, hκ, hk, hL⟩ := jfl_ok h1
        have hf : (T k).2.2.2 = false ∨ (meth.name = "<init>" ∧ (T k).1 = (jy μ).cls) := by
          rcases jpf_ok hpf hc with h | ⟨h3, h4⟩
          · exact Or.inl h
          · exact Or.inr ⟨by rw [hnm]; exact h3, h4⟩
        exact jput_sound hx hb hW hK hown hc hk hL hf hfit hS hS0 (jA_of hA h2 (by omega)) h2 hκ hd (k1 rfl rfl rfl)
      · cases h
    · cases h
  · -- new
    split at h
    · rename_i κ N w h1
      cases h
      obtain ⟨C, T, hc, hκ, w1, w2, w3⟩ := jnw_ok h1
      obtain ⟨⟨c1, c2⟩, k3⟩ := k2 rfl rfl rfl
      exact jnew_sound hx hb hW hK hown hc hκ w1 w2 w3 hS hS0 c1 c2 hd k3
    · cases h
  · -- newarray
    split at h
    · rename_i κ h1
      split at h
      · rename_i hx0
        cases h
        obtain ⟨w1, w2, w3, w4, w5⟩ := jna_ok h1
        obtain ⟨⟨c1, c2⟩, k3⟩ := k2 rfl rfl rfl
        exact jnewa_sound hx hb hW hK w1 w2 w3 w4 hS hS0 hx0.1 (Nat.le_trans (Nat.mul_le_mul hx0.2 w5) (by decide)) c1 c2 hd k3
      · cases h
    · cases h
  · -- anewarray
    split at h
    · rename_i κ h1
      split at h
      · rename_i hx0
        cases h
        obtain ⟨C0, w1, w2, w3, w4, w5⟩ := janw_ok h1
        obtain ⟨⟨c1, c2⟩, k3⟩ := k2 rfl rfl rfl
        exact janew_sound hx hb hW hK hown w1 w2 w3 w4 w5 hS hS0 hx0.1 (Nat.le_trans (Nat.mul_le_mul hx0.2 (Nat.le_refl 4)) (by decide)) c1 c2 hd k3
      · cases h
    · cases h
  · -- arraylength
    split at h
    · rename_i κ n h2
      split at h
      · rename_i hκ
        cases h
        exact jlen_sound hx hb hK hS h2 hκ hd (k0 rfl rfl rfl)
      · cases h
    · cases h
  · -- iaload
    split at h
    · rename_i κ n h2
      split at h
      · rename_i hκ
        cases h
        have hty := hκ.1
        have hκ5 : 50 ≤ κ := jkt_50 hty
        exact jald_sound hx hb hK hS h2 hκ5 hκ.2 hd (Or.inl ⟨hty, rfl⟩) (k0 rfl rfl rfl)
      · cases h
    · cases h
  · -- laload
    split at h
    · rename_i κ n h2
      split at h
      · rename_i hκ
        cases h
        have hty := hκ.1
        have hκ5 : 50 ≤ κ := jkt_50 hty
        exact jald_sound hx hb hK hS h2 hκ5 hκ.2 hd (Or.inr (Or.inl ⟨hty, rfl⟩)) (k0 rfl rfl rfl)
      · cases h
    · cases h
  · -- baload
    split at h
    · rename_i κ n h2
      split at h
      · rename_i hκ
        cases h
        have hty := hκ.1
        have hκ5 : 50 ≤ κ := jkt_50 hty
        exact jald_sound hx hb hK hS h2 hκ5 hκ.2 hd (Or.inr (Or.inr (Or.inl ⟨hty, rfl⟩))) (k0 rfl rfl rfl)
      · cases h
    · cases h
  · -- aaload
    split at h
    · rename_i κ n h2
      split at h
      · rename_i hκ
        cases h
        have hκ5 : 50 ≤ κ := jkr_50 hκ.1
        have hty := jkr_ok hκ.1
        exact jald_sound hx hb hK hS h2 hκ5 hκ.2 hd (Or.inr (Or.inr (Or.inr ⟨_, hty, rfl, rfl⟩))) (k0 rfl rfl rfl)
      · cases h
    · cases h
  · -- iastore
    split at h
    · rename_i κ n h2
      split at h
      · rename_i hκ
        cases h
        obtain ⟨hκ9, hty⟩ := hκ.1
        have hκ5 : 50 ≤ κ := jkt_50 hty
        exact jiast_sound hx hb hK hS hS0 (jA_of hA h2 hκ9) h2 hκ5 hκ9 hty hκ.2 hd (k1 rfl rfl rfl)
      · cases h
    · cases h
  · -- lastore
    split at h
    · rename_i κ n h2
      split at h
      · rename_i hκ
        cases h
        obtain ⟨hκ9, hty⟩ := hκ.1
        have hκ5 : 50 ≤ κ := jkt_50 hty
        exact jlast_sound hx hb hK hS hS0 (jA_of hA h2 hκ9) h2 hκ5 hκ9 hty hκ.2 hd (k1 rfl rfl rfl)
      · cases h
    · cases h
  · -- bastore
    split at h
    · rename_i κ n h2
      split at h
      · rename_i hκ
        cases h
        obtain ⟨hκ9, hty⟩ := hκ.1
        have hκ5 : 50 ≤ κ := jkt_50 hty
        exact jzast_sound hx hb hK hS hS0 (jA_of hA h2 hκ9) h2 hκ5 hκ9 hty hκ.2.1 hκ.2.2 hd (k1 rfl rfl rfl)
      · cases h
    · cases h
  · -- aastore
    split at h
    · rename_i κ n κv nv h2 h3
      split at h
      · rename_i hκ
        cases h
        obtain ⟨C0, q, w1, w2, w3, w4⟩ := jca_ok hκ.2.2.1
        exact jaast_sound hx hb hW hK hS hS0 (jA_of hA h2 hκ.2.1) h2 hκ.1 hκ.2.1 w1 h3 w2 w3 w4 hκ.2.2.2 hd (k1 rfl rfl rfl)
      · cases h
    · cases h
  · -- aastore null
    split at h
    · rename_i κ n h2
      split at h
      · rename_i hκ
        cases h
        have hκ5 : 50 ≤ κ := jkr_50 hκ.2.1
        have hty := jkr_ok hκ.2.1
        exact jaastN_sound hx hb hK hS hS0 (jA_of hA h2 hκ.1) h2 hκ5 hκ.1 hty hκ.2.2 hd (k1 rfl rfl rfl)
      · cases h
    · cases h
  · -- getstatic
    split at h
    · rename_i k h1
      cases h
      obtain ⟨C, n, d, w1, ref, w2, w3⟩ := jsg_ok h1
      have hZ1 := hZ _ _ _ _ w1
      have hsame : ∀ x, s.fieldFound? C n d = some x → s.fieldFound? ref n d = some x := by
        intro x hx
        rcases w3 with h | h
        · rw [h]; exact hx
        · exact u_same (hW _ h args) _ hx
      rcases w2 with w2 | ⟨host, w2⟩
      · exact va_gets hx hb hZ1 hS0 hown (hW _ w2 args) hsame hd (k0 rfl rfl rfl)
      · exact va_getsN hx hb hZ1 hS0 hown (hW _ w2 args) hsame hd (k0 rfl rfl rfl)
    · cases h
  · -- ldc
    split at h
    · rename_i x h1
      cases h
      exact W.ldc hx hb hown (hW _ (jldc_i h1) args) (g := F0 m pc ls _) rfl hd (k0 rfl rfl rfl)
    · rename_i k h1
      cases h
      obtain ⟨C, w1, w2⟩ := jldc_m h1
      obtain ⟨mi, e1, e2⟩ := hMi _ _ w1
      exact va_ldcM hx hb hown (hW _ w2 args) e2 hd (k0 rfl (by rw [e1]) rfl)
    · cases h
  · -- ldc2_w
    split at h
    · rename_i x h1
      cases h
      exact lv_ldc2 hx hb hown (hW _ (jldl_ok h1) args) hd (k0 rfl rfl rfl)
    · cases h
  · -- checkcast null
    cases h
    exact lv_castN hx hb hd (k0 rfl rfl rfl)
  · -- checkcast
    split at h
    · rename_i κ n h2
      split at h
      · rename_i hκ
        cases h
        rcases jck_ok hκ with ⟨w1, q, nm, w2, w3, w4⟩ | ⟨w1, w2, ty, w3, w4⟩
        · exact jcast_sound hx hb hW hK hown w2 w1 w3 w4 hS h2 hd (k0 rfl rfl rfl)
        · exact jcastA_sound hx hb hW hK hown w3 w1 w2 w4 hS h2 hd (k0 rfl rfl rfl)
      · cases h
    · cases h
  · cases h
set_option maxHeartbeats 4000000 in
theorem jnatv_sound (hC : jCx sv D E A p s m meth c μ) (hls : ls.size = jmaxl μ) (hd : decode (jcode μ) pc = .ok (i, 3)) (h : jnatv sv μ i st M = some (st', M')) (hS : jSim D E H M) (hS0 : va_S A s.heap H locs) (hA : ∀ q, jA M q → A q) (hfr : 1 ≤ R.frames) (hlo : 40 ≤ R.locals) (hce : cells ≤ R.cells) (hsl : slots ≤ R.slots)
    (kk : ∀ (H1 : Heap) (locs1 : List Loc), jSim D E H1 M' → va_S A s.heap H1 locs1 → W p l e R s m args below meth c H1 locs1 cells slots Q (F0 m (pc + 3) ls st')) : W p l e R s m args below meth c H locs cells slots Q (F0 m pc ls st) := by
  obtain ⟨hx, hb, hml, hown, hnm, hret, hlk, hW, hK, hZ, hMi⟩ := hC
  obtain ⟨t, u, g, V⟩ := M
  unfold jnatv at h
  split at h
  · -- Object.<init>
    split at h
    · rename_i hj
      split at h
      · split at h
        · rename_i hr0
          cases h
          obtain ⟨w1, w2, w3⟩ := jnt_ok0 hj
          have hr : (List.map (fun v : Value => v.category) st').sum ≤ 8 := hr0
          exact W.objInit hx hb hown (hW _ w1 args) (hW _ w2 args) (hW _ w3 args) (g := F0 m pc ls _) rfl (by rw [hml]; exact hls) rfl hd hfr (by show 2 * 0 + _ + 12 ≤ _; omega) (kk _ _ hS hS0)
        · cases h
      · cases h
    · cases h
  · split at h
    case h_2 => cases h
    rename_i cN hj
    split at h
    · -- arraycopy
      rename_i hcN
      subst hcN
      unfold jcpy at h
      split at h
      · dsimp only at h
        split at h
        · rename_i κ0 n0 κ n h1 h2
          split at h
          · rename_i ty hty
            split at h
            · rename_i hc
              obtain ⟨c0, ⟨c1, c2, c3, c4⟩, ⟨c5, c6, c7⟩, ⟨c8, c9⟩, c10⟩ := hc
              cases h
              obtain ⟨w1, w2, w3, w4⟩ := jnt_ok1 hj
              have hr : (List.map (fun v : Value => v.category) st').sum ≤ 8 := c0
              have hfw : nativeFrameWords "java/lang/System" "arraycopy" 5 ≤ 20 := by decide
              refine jcopy_sound hx hb (by rw [hml]; exact hls.symm) hW hK hown w1 w2 w3 w4 hS hS0 (jA_of hA h2 c3) h1 c1 h2 c2 c3 c4 hty c5 c6 c7 c8 c9 (fun i hi => ?_) (fun i hi y hy => ?_) hfr (by omega) hd kk
              · have := c10 i hi
                unfold jel at this
                simp only [Bool.and_eq_true] at this
                exact this.1
              · have := c10 i hi
                unfold jel at this
                rw [hy] at this
                simp only [Bool.and_eq_true] at this
                have h3 := this.2
                split at h3
                · rename_i κy ny hgy
                  obtain ⟨C0, q, v1, v2, v3, v4⟩ := jca_ok h3
                  exact ⟨C0, κy, ny, q, Option.some.inj (hty.symm.trans v1), hgy, v2, v3, v4⟩
                · cases h3
            · cases h
          · cases h
        · cases h
      · cases h
    split at h
    · -- max
      rename_i hcN1 hcN
      subst hcN
      split at h
      · split at h
        · rename_i hr0
          cases h
          obtain ⟨w1, w2, w3, w4⟩ := jnt_ok3 hj
          have hr : (List.map (fun v : Value => v.category) _).sum ≤ 8 := hr0
          exact va_mmax hx hb (by rw [hml]; exact hls.symm) hown (hW _ w1 args) (hW _ w2 args) (hW _ w3 args) (hW _ w4 args) hfr (by omega) hce hsl hd (kk _ _ hS hS0)
        · cases h
      · cases h
    split at h
    · -- min
      rename_i hcN1 hcN2 hcN
      subst hcN
      split at h
      · split at h
        · rename_i hr0
          cases h
          obtain ⟨w1, w2, w3, w4⟩ := jnt_ok4 hj
          have hr : (List.map (fun v : Value => v.category) _).sum ≤ 8 := hr0
          exact va_mmin hx hb (by rw [hml]; exact hls.symm) hown (hW _ w1 args) (hW _ w2 args) (hW _ w3 args) (hW _ w4 args) hfr (by omega) hce hsl hd (kk _ _ hS hS0)
        · cases h
      · cases h
    · cases h
  · -- getClass
    split at h
    · rename_i hj
      split at h
      · rename_i a rr
        split at h
        · rename_i hr0
          split at h
          · rename_i κ n h2
            split at h
            · rename_i k hk
              cases h
              obtain ⟨w1, w2, w3, w4⟩ := jnt_ok2 hj
              obtain ⟨C, v1, v2, v3⟩ := jmi_ok hk
              obtain ⟨mi, e1, e2⟩ := hMi _ _ v1
              have hr : (List.map (fun v : Value => v.category) rr).sum ≤ 8 := hr0
              have hrc : ∃ cell : Cell, H[a]? = some cell ∧ cell.vm.isStatics = false ∧ s.vm.findClass C = some cell.cls := by
                rcases v3 with ⟨x1, q, x2, x3⟩ | ⟨x1, x2, ty, x3, x4⟩
                · obtain ⟨-, cell, q1, q2, q3, -⟩ := jcell_obj (hS.2 _ κ n h2) x1 x2
                  exact ⟨cell, q1, by rw [q3]; rfl, by rw [q2, ← x3]; exact (hK.1 κ _ x2).2.1⟩
                · obtain ⟨cell, q1, q2, q3, q4, -⟩ := jcell_arr (hS.2 _ κ n h2) x1
                  refine ⟨cell, q1, ?_, by rw [q2, x4]; exact (hK.2 κ _ x3).2 x2⟩
                  cases hv : cell.vm <;> first | rfl | exact absurd hv (q4 _)
              have kk2 := kk _ _ hS hS0
              rw [e1] at kk2
              exact va_getC hx hb (by rw [hml]; exact hls.symm) hown (hW _ w1 args) (hW _ w2 args) (hW _ v2 args) (hW _ w3 args) (hW _ w4 args) e2 hrc hfr (by omega) hd kk2
            · cases h
          · cases h
        · cases h
      · cases h
    · cases h
  · cases h
/-- behind a call -/
theorem jafter {M1 : jM} {r : Option Value} {a : Array Value} {mc ms : Nat} {rest : List Value} (hr : va_Run p l e R s m args below meth c H locs cells slots mc ms (F0 m pc ls st) rest (jQ D E M M1 r a) (jA M)) (hS0 : va_S A s.heap H locs) (hA : ∀ q, jA M q → A q)
    (kk : ∀ (H1 : Heap) (locs1 : List Loc), jSim D E H1 M1 → va_S A s.heap H1 locs1 → W p l e R s m args below meth c H1 locs1 (cells + mc) (slots + ms) Q (F0 m (pc + 3) ls (r.toList ++ rest))) : W p l e R s m args below meth c H locs cells slots Q (F0 m pc ls st) := by
  intro T hT X
  obtain ⟨v, st₀, t, T', L, h0, X', hL, e1, e2, ⟨hv, hs, hz, hk⟩, stp⟩ := hr T hT X
  cases hv
  rw [h0] at hz hk
  obtain ⟨t2, a1, b1⟩ := kk T'.heap (locs ++ L) (by rw [e1]; exact hs) ⟨Nat.le_trans hS0.1 (by rw [e1]; exact hz), fun q h1 h2 => by rw [e1, hk q (Nat.lt_of_lt_of_le h1 hS0.1) (fun z => h2 (hA q z))]; exact hS0.2.1 q h1 h2, fun q hq => by
      rcases List.mem_append.mp hq with h | h
      · exact hS0.2.2 q h
      · exact hA _ (hL q h)⟩ T' rfl X'
  exact ⟨t2, stp t2 a1, b1⟩
/-- how a method ends -/
def jend (μ pc : Nat) (r : Option Value) : Prop := ∃ (i : ClassFile.Instr) (st : List Value), decode (jcode μ) pc = .ok (i, 1) ∧ jrt μ i st = some r ∧ st = r.toList
theorem jrt_st {r : Option Value} (h : jrt μ i st = some r) : st = r.toList := by
  unfold jrt at h
  split at h
  all_goals (repeat' (first | (cases h; done) | (cases h; rfl) | (split at h)))
theorem jend_sound {M1 : jM} {r : Option Value} {ls' : Array Slot} (hC : jCx sv D E A p s m meth c μ) (he : jend μ pc r) (hS : jSim D E H M1) (hS0 : va_S (jA M) s.heap H locs) : W p l e R s m args below meth c H locs cells slots (MQ below (jQ D E M M1 r) args s cells slots (jA M)) (F0 m pc ls' r.toList) := by
  obtain ⟨hx, hb, hml, hown, hnm, hret, hlk, -⟩ := hC
  obtain ⟨i, st, hd, hr, rfl⟩ := he
  have hq : ∀ t : State, t.heap = H → s.WarmedH t.vm → jQ D E M M1 r args s (.returned r) t := fun t ht _ => ⟨rfl, by rw [ht]; exact hS, by rw [ht]; exact hS0.1, fun q h1 h2 => by rw [ht]; exact hS0.2.1 q h1 h2⟩
  generalize hst : r.toList = st at hr
  unfold jrt at hr
  split at hr
  · rename_i v
    split at hr
    · rename_i hc
      cases hr
      rcases hc with hc | ⟨hc, hf⟩
      · exact W.iret hx hb (hret.trans hc) hq hS0.2.2 hd
      · exact W.zret hx hb (hret.trans hc) (jfits_ok hf).1 hq hS0.2.2 hd
    · cases hr
  · split at hr
    · rename_i hc
      cases hr
      exact W.lret hx hb (hret.trans hc) hq hS0.2.2 hd
    · cases hr
  · split at hr
    · rename_i hc
      cases hr
      cases hrr : jret μ with
      | none => rw [hrr] at hc; cases hc
      | some ty =>
        rw [hrr] at hc
        have hrt : (∃ n, ty = .object n) ∨ ∃ t, ty = .array t := by
          cases ty <;> first | exact Or.inl ⟨_, rfl⟩ | exact Or.inr ⟨_, rfl⟩ | cases hc
        exact W.aret hx hb (hret.trans hrr) hrt (Or.inr ⟨_, rfl⟩) hq hS0.2.2 hd
    · cases hr
  · split at hr
    · rename_i hc
      cases hr
      cases hrr : jret μ with
      | none => rw [hrr] at hc; cases hc
      | some ty =>
        rw [hrr] at hc
        have hrt : (∃ n, ty = .object n) ∨ ∃ t, ty = .array t := by
          cases ty <;> first | exact Or.inl ⟨_, rfl⟩ | exact Or.inr ⟨_, rfl⟩ | cases hc
        exact W.aret hx hb (hret.trans hrr) hrt (Or.inl rfl) hq hS0.2.2 hd
    · cases hr
  · split at hr
    · rename_i hc
      cases hr
      exact W.vret hx hb (hret.trans hc) hq hS0.2.2 hd
    · cases hr
  · cases hr
end JS
