def jgI (L : jL) (k : Nat) : Option Int32 := match L[k]? with
  | some (some (.int x)) => some x
  | _ => none
def jgL (L : jL) (k : Nat) : Option Int64 := match L[k]? with
  | some (some (.long x)) => some x
  | _ => none
/-- a reference: none for null -/
def jgA (L : jL) (k : Nat) : Option (Option Nat) := match L[k]? with
  | some (some (.ref x)) => some (some x)
  | some (some .null) => some none
  | _ => none
theorem jgI_at {L : jL} {k : Nat} {x : Int32} (h : jgI L k = some x) : L[k]? = some (some (.int x)) := by
  unfold jgI at h
  split at h
  · rename_i hx; cases h; exact hx
  · cases h
theorem jgL_at {L : jL} {k : Nat} {x : Int64} (h : jgL L k = some x) : L[k]? = some (some (.long x)) := by
  unfold jgL at h
  split at h
  · rename_i hx; cases h; exact hx
  · cases h
theorem jgA_at {L : jL} {k : Nat} {r : Option Nat} (h : jgA L k = some r) : L[k]? = some (some (va_rf r)) := by
  unfold jgA at h
  split at h
  · rename_i hx; cases h; exact hx
  · rename_i hx; cases h; exact hx
  · cases h
def jpure (i : ClassFile.Instr) (L : jL) (st : List Value) : Option (Nat × jL × List Value) := match i with
  | .iconst n => some (1, L, .int (Int32.ofInt n) :: st)
  | .bipush n => some (2, L, .int (Int8.ofInt n).toInt32 :: st)
  | .sipush n => some (3, L, .int (Int16.ofInt n).toInt32 :: st)
  | .lconst n => some (1, L, .long (Int64.ofNat n.val) :: st)
  | .aconst_null => some (1, L, .null :: st)
  | .iload k => (jgI L k).map fun x => (2, L, .int x :: st)
  | .iload_n k => (jgI L k.val).map fun x => (1, L, .int x :: st)
  | .lload k => (jgL L k).map fun x => (2, L, .long x :: st)
  | .lload_n k => (jgL L k.val).map fun x => (1, L, .long x :: st)
  | .aload k => (jgA L k).map fun x => (2, L, va_rf x :: st)
  | .aload_n k => (jgA L k.val).map fun x => (1, L, va_rf x :: st)
  | .istore k => match st with
    | .int x :: r => (jst1 L k (.int x)).map fun L' => (2, L', r)
    | _ => none
  | .istore_n k => match st with
    | .int x :: r => (jst1 L k.val (.int x)).map fun L' => (1, L', r)
    | _ => none
  | .lstore k => match st with
    | .long x :: r => (jst2 L k (.long x)).map fun L' => (2, L', r)
    | _ => none
  | .lstore_n k => match st with
    | .long x :: r => (jst2 L k.val (.long x)).map fun L' => (1, L', r)
    | _ => none
  | .astore k => match st with
    | .ref x :: r => (jst1 L k (.ref x)).map fun L' => (2, L', r)
    | .null :: r => (jst1 L k .null).map fun L' => (2, L', r)
    | _ => none
  | .astore_n k => match st with
    | .ref x :: r => (jst1 L k.val (.ref x)).map fun L' => (1, L', r)
    | .null :: r => (jst1 L k.val .null).map fun L' => (1, L', r)
    | _ => none
  | .iinc k n => (jgI L k).bind fun x => (jst1 L k (.int (x + Int32.ofInt n))).map fun L' => (3, L', st)
  | .iadd => match st with
    | .int y :: .int x :: r => some (1, L, .int (x + y) :: r)
    | _ => none
  | .isub => match st with
    | .int y :: .int x :: r => some (1, L, .int (x - y) :: r)
    | _ => none
  | .imul => match st with
    | .int y :: .int x :: r => some (1, L, .int (x * y) :: r)
    | _ => none
  | .iand => match st with
    | .int y :: .int x :: r => some (1, L, .int (x &&& y) :: r)
    | _ => none
  | .ior => match st with
    | .int y :: .int x :: r => some (1, L, .int (x ||| y) :: r)
    | _ => none
  | .ixor => match st with
    | .int y :: .int x :: r => some (1, L, .int (x ^^^ y) :: r)
    | _ => none
  | .ishl => match st with
    | .int y :: .int x :: r => some (1, L, .int (x <<< (y &&& 31)) :: r)
    | _ => none
  | .ishr => match st with
    | .int y :: .int x :: r => some (1, L, .int (x >>> (y &&& 31)) :: r)
    | _ => none
  | .iushr => match st with
    | .int y :: .int x :: r => some (1, L, .int (x.toUInt32 >>> (y.toUInt32 &&& Int32.toUInt32 31)).toInt32 :: r)
    | _ => none
  | .idiv => match st with
    | .int y :: .int x :: r => if y = 0 then none else some (1, L, .int (x / y) :: r)
    | _ => none
  | .irem => match st with
    | .int y :: .int x :: r => if y = 0 then none else some (1, L, .int (x - x / y * y) :: r)
    | _ => none
  | .ladd => match st with
    | .long y :: .long x :: r => some (1, L, .long (x + y) :: r)
    | _ => none
  | .lsub => match st with
    | .long y :: .long x :: r => some (1, L, .long (x - y) :: r)
    | _ => none
  | .lmul => match st with
    | .long y :: .long x :: r => some (1, L, .long (x * y) :: r)
    | _ => none
  | .land => match st with
    | .long y :: .long x :: r => some (1, L, .long (x &&& y) :: r)
    | _ => none
  | .lor => match st with
    | .long y :: .long x :: r => some (1, L, .long (x ||| y) :: r)
    | _ => none
  | .lxor => match st with
    | .long y :: .long x :: r => some (1, L, .long (x ^^^ y) :: r)
    | _ => none
  | .lshl => match st with
    | .int y :: .long x :: r => some (1, L, .long (x <<< (y.toInt64 &&& 63)) :: r)
    | _ => none
  | .lcmp => match st with
    | .long y :: .long x :: r => some (1, L, .int (lg_cmp x y) :: r)
    | _ => none
  | .ineg => match st with
    | .int x :: r => some (1, L, .int (-x) :: r)
    | _ => none
  | .lneg => match st with
    | .long x :: r => some (1, L, .long (-x) :: r)
    | _ => none
  | .i2l => match st with
    | .int x :: r => some (1, L, .long x.toInt64 :: r)
    | _ => none
  | .l2i => match st with
    | .long x :: r => some (1, L, .int x.toInt32 :: r)
    | _ => none
  | .i2b => match st with
    | .int x :: r => some (1, L, .int x.toInt8.toInt32 :: r)
    | _ => none
  | .dup => match st with
    | v :: r => if v.category = 1 then some (1, L, v :: v :: r) else none
    | _ => none
  | .pop => match st with
    | v :: r => if v.category = 1 then some (1, L, r) else none
    | _ => none
  | .dup_x1 => match st with
    | v :: w :: r => if v.category = 1 ∧ w.category = 1 then some (1, L, v :: w :: v :: r) else none
    | _ => none
  | .dup_x2 => match st with
    | v :: w :: z :: r => if v.category = 1 ∧ w.category = 1 ∧ z.category = 1 then some (1, L, v :: w :: z :: v :: r) else none
    | _ => none
  | .dup2 => match st with
    | v :: w :: r => if v.category = 1 ∧ w.category = 1 then some (1, L, v :: w :: v :: w :: r) else none
    | _ => none
  | _ => none
set_option maxHeartbeats 4000000 in
theorem jpure_sound {p : Program} {l : Launch} {e : Env} {R : Room} {s : State} {m : MethodId} {args : Array Value} {below : List Frame} {meth : Method} {c : Code} {H : Heap} {locs : List Loc} {cells slots : Nat} {Q : State → Prop} {cc : ByteArray} {pc n len : Nat} {ls : Array Slot} {L L' : jL} {st st' : List Value} {i : ClassFile.Instr} (hx : p.tables.exec = Jvm.exec) (hb : c.code = cc) (hd : decode cc pc = .ok (i, len)) (h : jpure i L st = some (len, L', st')) (hl : jlv ls n L) (kk : ∀ ls' : Array Slot, jlv ls' n L' → W p l e R s m args below meth c H locs cells slots Q (F0 m (pc + len) ls' st')) : W p l e R s m args below meth c H locs cells slots Q (F0 m pc ls st) := by
  unfold jpure at h
  split at h
  · -- .iconst n
    cases h
    exact lv_iconst hx hb hd rfl (kk _ hl)
  · -- .bipush n
    cases h
    exact lv_bipush hx hb hd rfl (kk _ hl)
  · -- .sipush n
    cases h
    exact lv_sipush hx hb hd rfl (kk _ hl)
  · -- .lconst n
    cases h
    exact lv_lconst hx hb hd rfl (kk _ hl)
  · -- .aconst_null
    cases h
    exact lv_null hx hb hd (kk _ hl)
  · -- .iload k
    obtain ⟨x, hv, e⟩ := Option.map_eq_some_iff.mp h
    have hv := jgI_at hv
    cases e
    exact lv_iload hx hb hd (jlv_at hl hv) (kk _ hl)
  · -- .iload_n k
    obtain ⟨x, hv, e⟩ := Option.map_eq_some_iff.mp h
    have hv := jgI_at hv
    cases e
    exact lv_iload_n hx hb hd rfl (jlv_at hl hv) (kk _ hl)
  · -- .lload k
    obtain ⟨x, hv, e⟩ := Option.map_eq_some_iff.mp h
    have hv := jgL_at hv
    cases e
    exact lv_lload hx hb hd (jlv_at hl hv) (kk _ hl)
  · -- .lload_n k
    obtain ⟨x, hv, e⟩ := Option.map_eq_some_iff.mp h
    have hv := jgL_at hv
    cases e
    exact lv_lload_n hx hb hd rfl (jlv_at hl hv) (kk _ hl)
  · -- .aload k
    obtain ⟨x, hv, e⟩ := Option.map_eq_some_iff.mp h
    have hv := jgA_at hv
    cases e
    cases x with
    | none => exact lv_aloadN hx hb hd  (jlv_at hl hv) (kk _ hl)
    | some x => exact lv_aload hx hb hd  (jlv_at hl hv) (kk _ hl)
  · -- .aload_n k
    obtain ⟨x, hv, e⟩ := Option.map_eq_some_iff.mp h
    have hv := jgA_at hv
    cases e
    cases x with
    | none => exact lv_aload_nN hx hb hd rfl (jlv_at hl hv) (kk _ hl)
    | some x => exact lv_aload_n hx hb hd rfl (jlv_at hl hv) (kk _ hl)
  · -- .istore k
    split at h
    · obtain ⟨L1, hs, e⟩ := Option.map_eq_some_iff.mp h
      cases e
      exact lv_istore hx hb hd hl.2 (by rw [← hl.1]; exact jst1_lt hs) rfl (fun ls' h2 => kk _ (jlv_st1 hl hs h2))
    · cases h
  · -- .istore_n k
    split at h
    · obtain ⟨L1, hs, e⟩ := Option.map_eq_some_iff.mp h
      cases e
      exact lv_istore_n hx hb hd rfl hl.2 (by rw [← hl.1]; exact jst1_lt hs) rfl (fun ls' h2 => kk _ (jlv_st1 hl hs h2))
    · cases h
  · -- .lstore k
    split at h
    · obtain ⟨L1, hs, e⟩ := Option.map_eq_some_iff.mp h
      cases e
      exact lv_lstore hx hb hd hl.2 (by rw [← hl.1]; exact jst2_lt hs) rfl (fun ls' h2 => kk _ (jlv_st2 hl hs h2))
    · cases h
  · -- .lstore_n k
    split at h
    · obtain ⟨L1, hs, e⟩ := Option.map_eq_some_iff.mp h
      cases e
      exact lv_lstore_n hx hb hd rfl hl.2 (by rw [← hl.1]; exact jst2_lt hs) rfl (fun ls' h2 => kk _ (jlv_st2 hl hs h2))
    · cases h
  · -- .astore k
    split at h
    · obtain ⟨L1, hs, e⟩ := Option.map_eq_some_iff.mp h
      cases e
      exact lv_astore hx hb hd hl.2 (by rw [← hl.1]; exact jst1_lt hs) rfl (fun ls' h2 => kk _ (jlv_st1 hl hs h2))
    · obtain ⟨L1, hs, e⟩ := Option.map_eq_some_iff.mp h
      cases e
      exact lv_astoreN hx hb hd hl.2 (by rw [← hl.1]; exact jst1_lt hs) rfl (fun ls' h2 => kk _ (jlv_st1 hl hs h2))
    · cases h
  · -- .astore_n k
    split at h
    · obtain ⟨L1, hs, e⟩ := Option.map_eq_some_iff.mp h
      cases e
      exact lv_astore_n hx hb hd rfl hl.2 (by rw [← hl.1]; exact jst1_lt hs) rfl (fun ls' h2 => kk _ (jlv_st1 hl hs h2))
    · obtain ⟨L1, hs, e⟩ := Option.map_eq_some_iff.mp h
      cases e
      exact lv_astore_nN hx hb hd rfl hl.2 (by rw [← hl.1]; exact jst1_lt hs) rfl (fun ls' h2 => kk _ (jlv_st1 hl hs h2))
    · cases h
  · -- .iinc k n
    obtain ⟨x, hv, h⟩ := Option.bind_eq_some_iff.mp h
    have hv := jgI_at hv
    obtain ⟨L1, hs, e⟩ := Option.map_eq_some_iff.mp h
    cases e
    obtain ⟨z, hz⟩ := List.getElem?_of_mem ((jp_mem L 0 (_, _)).mpr ⟨_, hv, (Nat.zero_add _).symm⟩)
    exact lv_iinc hx hb hd hl.2 (k := z) hz rfl (by rw [← hl.1]; exact jst1_lt hs) rfl (fun ls' h2 => kk _ (jlv_st1 hl hs h2))
  · -- .iadd
    split at h
    · cases h
      exact lv_iadd hx hb hd (kk _ hl)
    · cases h
  · -- .isub
    split at h
    · cases h
      exact lv_isub hx hb hd (kk _ hl)
    · cases h
  · -- .imul
    split at h
    · cases h
      exact lv_imul hx hb hd (kk _ hl)
    · cases h
  · -- .iand
    split at h
    · cases h
      exact lv_iand hx hb hd (kk _ hl)
    · cases h
  · -- .ior
    split at h
    · cases h
      exact lv_ior hx hb hd (kk _ hl)
    · cases h
  · -- .ixor
    split at h
    · cases h
      exact lv_ixor hx hb hd (kk _ hl)
    · cases h
  · -- .ishl
    split at h
    · cases h
      exact lv_ishl hx hb hd (kk _ hl)
    · cases h
  · -- .ishr
    split at h
    · cases h
      exact lv_ishr hx hb hd (kk _ hl)
    · cases h
  · -- .iushr
    split at h
    · cases h
      exact lv_iushr hx hb hd rfl (kk _ hl)
    · cases h
  · -- .idiv
    split at h
    · split at h
      · cases h
      · rename_i hz
        cases h
        exact lv_idiv hx hb hd hz (kk _ hl)
    · cases h
  · -- .irem
    split at h
    · split at h
      · cases h
      · rename_i hz
        cases h
        exact lv_irem hx hb hd hz (kk _ hl)
    · cases h
  · -- .ladd
    split at h
    · cases h
      exact lv_ladd hx hb hd (kk _ hl)
    · cases h
  · -- .lsub
    split at h
    · cases h
      exact lv_lsub hx hb hd (kk _ hl)
    · cases h
  · -- .lmul
    split at h
    · cases h
      exact lv_lmul hx hb hd (kk _ hl)
    · cases h
  · -- .land
    split at h
    · cases h
      exact lv_land hx hb hd (kk _ hl)
    · cases h
  · -- .lor
    split at h
    · cases h
      exact lv_lor hx hb hd (kk _ hl)
    · cases h
  · -- .lxor
    split at h
    · cases h
      exact lv_lxor hx hb hd (kk _ hl)
    · cases h
  · -- .lshl
    split at h
    · cases h
      exact lv_lshl hx hb hd rfl (kk _ hl)
    · cases h
  · -- .lcmp
    split at h
    · cases h
      exact W.lcmp hx hb hd (kk _ hl)
    · cases h
  · -- .ineg
    split at h
    · cases h
      exact lv_ineg hx hb hd (kk _ hl)
    · cases h
  · -- .lneg
    split at h
    · cases h
      exact lv_lneg hx hb hd (kk _ hl)
    · cases h
  · -- .i2l
    split at h
    · cases h
      exact lv_i2l hx hb hd rfl (kk _ hl)
    · cases h
  · -- .l2i
    split at h
    · cases h
      exact lv_l2i hx hb hd rfl (kk _ hl)
    · cases h
  · -- .i2b
    split at h
    · cases h
      exact lv_i2b hx hb hd rfl (kk _ hl)
    · cases h
  · -- .dup
    split at h
    · split at h
      · rename_i hc
        cases h
        exact lv_dup hx hb hd hc (kk _ hl)
      · cases h
    · cases h
  · -- .pop
    split at h
    · split at h
      · rename_i hc
        cases h
        exact lv_pop hx hb hd hc (kk _ hl)
      · cases h
    · cases h
  · -- .dup_x1
    split at h
    · split at h
      · rename_i hc
        cases h
        exact lv_dup_x1 hx hb hd hc.1 hc.2 (kk _ hl)
      · cases h
    · cases h
  · -- .dup_x2
    split at h
    · split at h
      · rename_i hc
        cases h
        exact lv_dup_x2 hx hb hd hc.1 hc.2.1 hc.2.2 (kk _ hl)
      · cases h
    · cases h
  · -- .dup2
    split at h
    · split at h
      · rename_i hc
        cases h
        exact lv_dup2_11 hx hb hd hc.1 hc.2 (kk _ hl)
      · cases h
    · cases h
  · cases h
