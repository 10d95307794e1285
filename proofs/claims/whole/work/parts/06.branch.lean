-- ===== branches =====
def jtg (pc : Nat) (off : Int) : Option Nat := if 0 ≤ (pc : Int) + off then some ((pc : Int) + off).toNat else none
theorem jtg_eq {pc t : Nat} {off : Int} (h : jtg pc off = some t) : (pc : Int) + off = (t : Int) := by
  unfold jtg at h
  split at h
  · cases h
    omega
  · cases h
def jc (c : ClassFile.Cond) (x y : Int32) : Prop := match c with
  | .eq => x = y
  | .ne => ¬ x = y
  | .lt => x < y
  | .ge => y ≤ x
  | .gt => y < x
  | .le => x ≤ y
def jcb (c : ClassFile.Cond) (x y : Int32) : Bool := match c with
  | .eq => decide (x = y)
  | .ne => !decide (x = y)
  | .lt => decide (x < y)
  | .ge => decide (y ≤ x)
  | .gt => decide (y < x)
  | .le => decide (x ≤ y)
theorem jcb_iff {c : ClassFile.Cond} {x y : Int32} : jcb c x y = true ↔ jc c x y := by
  cases c <;> simp [jcb, jc]
/-- a value that is a reference, as an optional address -/
def jrf (v : Value) : Option (Option Nat) := match v with
  | .ref a => some (some a)
  | .null => some none
  | _ => none
theorem jrf_eq {v : Value} {r : Option Nat} (h : jrf v = some r) : v = va_rf r := by
  unfold jrf at h
  split at h
  · cases h; rfl
  · cases h; rfl
  · cases h
def jbr (i : ClassFile.Instr) (len pc : Nat) (st : List Value) : Option (Nat × List Value) := match i with
  | .goto off => if len = 3 then (jtg pc off).map fun t => (t, st) else none
  | .ifCond c off => if len = 3 then (jtg pc off).bind fun t => match st with
    | .int x :: r => some (if jcb c x 0 then t else pc + 3, r)
    | _ => none
    else none
  | .if_icmp c off => if len = 3 then (jtg pc off).bind fun t => match st with
    | .int y :: .int x :: r => some (if jcb c x y then t else pc + 3, r)
    | _ => none
    else none
  | .ifnull off => if len = 3 then (jtg pc off).bind fun t => match st with
    | .null :: r => some (t, r)
    | .ref _ :: r => some (pc + 3, r)
    | _ => none
    else none
  | .ifnonnull off => if len = 3 then (jtg pc off).bind fun t => match st with
    | .null :: r => some (pc + 3, r)
    | .ref _ :: r => some (t, r)
    | _ => none
    else none
  | .if_acmp c off => if len = 3 then (jtg pc off).bind fun t => match st with
    | w :: v :: r => (jrf v).bind fun a => (jrf w).bind fun b => match c with
      | .eq => some (if a = b then t else pc + 3, r)
      | .ne => some (if a = b then pc + 3 else t, r)
    | _ => none
    else none
  | .tableswitch dflt lo hi offs => match st with
    | .int x :: r => (if x.toInt < lo ∨ hi < x.toInt then some dflt else offs[(x.toInt - lo).toNat]?).bind fun o => (jtg pc o).map fun t => (t, r)
    | _ => none
  | .lookupswitch dflt ps => match st with
    | .int x :: r => if (ps.toList.zip (ps.toList.drop 1)).all (fun (a, next) => a.1 < next.1) = true then (jtg pc (Op.lookupswitch.offset ps.toList dflt x.toInt)).map fun t => (t, r) else none
    | _ => none
  | _ => none
set_option maxHeartbeats 4000000 in
theorem jbr_sound {p : Program} {l : Launch} {e : Env} {R : Room} {s : State} {m : MethodId} {args : Array Value} {below : List Frame} {meth : Method} {c : Code} {H : Heap} {locs : List Loc} {cells slots : Nat} {Q : State → Prop} {cc : ByteArray} {pc len t : Nat} {ls : Array Slot} {st st' : List Value} {i : ClassFile.Instr} (hx : p.tables.exec = Jvm.exec) (hb : c.code = cc) (hd : decode cc pc = .ok (i, len)) (h : jbr i len pc st = some (t, st')) (k : W p l e R s m args below meth c H locs cells slots Q (F0 m t ls st')) : W p l e R s m args below meth c H locs cells slots Q (F0 m pc ls st) := by
  unfold jbr at h
  split at h
  · -- goto
    split at h
    · rename_i hlen
      subst hlen
      obtain ⟨t1, ht, e1⟩ := Option.map_eq_some_iff.mp h
      cases e1
      exact lv_goto hx hb hd (jtg_eq ht) k
    · cases h
  · -- ifCond
    rename_i c1 off
    split at h
    · rename_i hlen
      subst hlen
      obtain ⟨t1, ht, h⟩ := Option.bind_eq_some_iff.mp h
      split at h
      · rename_i x r hz
        cases h
        have k1 : jc c1 x 0 → W p l e R s m args below meth c H locs cells slots Q (F0 m t1 ls st') := fun q => by rw [if_pos (jcb_iff.mpr q)] at k; exact k
        have k2 : ¬ jc c1 x 0 → W p l e R s m args below meth c H locs cells slots Q (F0 m (pc + 3) ls st') := fun q => by rw [if_neg (fun z => q (jcb_iff.mp z))] at k; exact k
        cases c1 with
        | eq => exact lv_if_eq hx hb hd (jtg_eq ht) k1 k2
        | ne => exact lv_if_ne hx hb hd (jtg_eq ht) k1 (fun q => k2 (fun z => z q))
        | lt => exact lv_if_lt hx hb hd (jtg_eq ht) k1 k2
        | ge => exact lv_if_ge hx hb hd (jtg_eq ht) k1 k2
        | gt => exact lv_if_gt hx hb hd (jtg_eq ht) k1 k2
        | le => exact lv_if_le hx hb hd (jtg_eq ht) k1 k2
      · cases h
    · cases h
  · -- if_icmp
    rename_i c1 off
    split at h
    · rename_i hlen
      subst hlen
      obtain ⟨t1, ht, h⟩ := Option.bind_eq_some_iff.mp h
      split at h
      · rename_i y x r hz
        cases h
        have k1 : jc c1 x y → W p l e R s m args below meth c H locs cells slots Q (F0 m t1 ls st') := fun q => by rw [if_pos (jcb_iff.mpr q)] at k; exact k
        have k2 : ¬ jc c1 x y → W p l e R s m args below meth c H locs cells slots Q (F0 m (pc + 3) ls st') := fun q => by rw [if_neg (fun z => q (jcb_iff.mp z))] at k; exact k
        cases c1 with
        | eq => exact lv_icmp_eq hx hb hd (jtg_eq ht) k1 k2
        | ne => exact lv_icmp_ne hx hb hd (jtg_eq ht) k1 (fun q => k2 (fun z => z q))
        | lt => exact lv_icmp_lt hx hb hd (jtg_eq ht) k1 k2
        | ge => exact lv_icmp_ge hx hb hd (jtg_eq ht) k1 k2
        | gt => exact lv_icmp_gt hx hb hd (jtg_eq ht) k1 k2
        | le => exact lv_icmp_le hx hb hd (jtg_eq ht) k1 k2
      · cases h
    · cases h
  · -- ifnull
    split at h
    · rename_i hlen
      subst hlen
      obtain ⟨t1, ht, h⟩ := Option.bind_eq_some_iff.mp h
      split at h
      · cases h
        exact lv_ifnullN hx hb hd (jtg_eq ht) k
      · cases h
        exact lv_ifnull hx hb hd k
      · cases h
    · cases h
  · -- ifnonnull
    split at h
    · rename_i hlen
      subst hlen
      obtain ⟨t1, ht, h⟩ := Option.bind_eq_some_iff.mp h
      split at h
      · cases h
        exact lv_ifnonnullN hx hb hd k
      · cases h
        exact lv_ifnonnull hx hb hd (jtg_eq ht) k
      · cases h
    · cases h
  · -- if_acmp
    rename_i c1 off
    split at h
    · rename_i hlen
      subst hlen
      obtain ⟨t1, ht, h⟩ := Option.bind_eq_some_iff.mp h
      split at h
      · obtain ⟨a, ha, h4⟩ := Option.bind_eq_some_iff.mp h
        obtain ⟨b, hb2, h5⟩ := Option.bind_eq_some_iff.mp h4
        clear h h4
        have ea := jrf_eq ha
        have eb := jrf_eq hb2
        subst ea eb
        cases c1 with
        | eq =>
          obtain ⟨e1, e2⟩ := Prod.mk.inj (Option.some.inj h5)
          subst e1 e2
          exact lv_acmp_eq hx hb hd (jtg_eq ht) (fun q => by rw [if_pos q] at k; exact k) (fun q => by rw [if_neg q] at k; exact k)
        | ne =>
          obtain ⟨e1, e2⟩ := Prod.mk.inj (Option.some.inj h5)
          subst e1 e2
          exact lv_acmp_ne hx hb hd (jtg_eq ht) (fun q => by rw [if_neg q] at k; exact k) (fun q => by rw [if_pos q] at k; exact k)
      · cases h
    · cases h
  · -- tableswitch
    split at h
    · obtain ⟨o, ho, h⟩ := Option.bind_eq_some_iff.mp h
      obtain ⟨t1, ht, e1⟩ := Option.map_eq_some_iff.mp h
      cases e1
      split at ho
      · rename_i hc
        cases ho
        exact lv_tableOut hx hb hd hc (jtg_eq ht) k
      · rename_i hc
        exact lv_tableIn hx hb hd (fun q => hc (Or.inl q)) (fun q => hc (Or.inr q)) ho (jtg_eq ht) k
    · cases h
  · -- lookupswitch
    split at h
    · split at h
      · rename_i hp
        obtain ⟨t1, ht, e1⟩ := Option.map_eq_some_iff.mp h
        cases e1
        exact lv_lookup hx hb hd hp rfl (jtg_eq ht) k
      · cases h
    · cases h
  · cases h
