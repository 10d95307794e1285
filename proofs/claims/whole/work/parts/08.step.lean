-- ===== one step =====
/-- memory: an instruction that reads or writes cells; its length, the new stack, the new memory -/
def jmem (sv : Nat → Value) (μ pc : Nat) (i : ClassFile.Instr) (st : List Value) (M : jM) : Option (Nat × List Value × jM) := match i, st with
  | .getfield idx, .ref a :: r => match jfl (jow μ) idx, M.2.2.1 a with
    | some (κ, k), some (κ', _) => if κ' = κ then some (3, M.2.2.2 κ k a :: r, M) else none
    | _, _ => none
  | .putfield idx, v :: .ref a :: r => match jfl (jow μ) idx, M.2.2.1 a with
    | some (κ, k), some (κ', _) => if κ' = κ ∧ jpf μ κ k = true ∧ jfits (jty κ k) v = true then some (3, r, M.1, M.2.1, M.2.2.1, jset M.2.2.2 κ k a v) else none
    | _, _ => none
  | .new idx, st => match jnw (jow μ) idx with
    | some (κ, N, w) => some (3, .ref M.1 :: st, M.1 + 1, M.2.1 + w, jgset M.2.2.1 M.1 (κ, N), jput M.2.2.2 κ M.1 (fun k => defaultValue (jty κ k)))
    | none => none
  | .newarray aty, .int x :: r => match jna μ pc aty with
    | some κ => if ¬ x < 0 ∧ x.toNatClampNeg ≤ 1000000 then some (2, .ref M.1 :: r, M.1 + 1, M.2.1 + x.toNatClampNeg, jgset M.2.2.1 M.1 (κ, x.toNatClampNeg), jput M.2.2.2 κ M.1 (fun _ => defaultValue (newarray.typeOf aty))) else none
    | none => none
  | .anewarray idx, .int x :: r => match janw (jow μ) idx with
    | some κ => if ¬ x < 0 ∧ x.toNatClampNeg ≤ 1000000 then some (3, .ref M.1 :: r, M.1 + 1, M.2.1 + x.toNatClampNeg, jgset M.2.2.1 M.1 (κ, x.toNatClampNeg), jput M.2.2.2 κ M.1 (fun _ => .null)) else none
    | none => none
  | .arraylength, .ref a :: r => match M.2.2.1 a with
    | some (κ, n) => if 50 ≤ κ then some (1, .int (Int32.ofNat n) :: r, M) else none
    | none => none
  | .iaload, .int j :: .ref a :: r => match M.2.2.1 a with
    | some (κ, n) => if jkt κ = some .int ∧ jin j n = true then some (1, M.2.2.2 κ j.toNatClampNeg a :: r, M) else none
    | none => none
  | .laload, .int j :: .ref a :: r => match M.2.2.1 a with
    | some (κ, n) => if jkt κ = some .long ∧ jin j n = true then some (1, M.2.2.2 κ j.toNatClampNeg a :: r, M) else none
    | none => none
  | .baload, .int j :: .ref a :: r => match M.2.2.1 a with
    | some (κ, n) => if jkt κ = some .boolean ∧ jin j n = true then some (1, M.2.2.2 κ j.toNatClampNeg a :: r, M) else none
    | none => none
  | .aaload, .int j :: .ref a :: r => match M.2.2.1 a with
    | some (κ, n) => if jkr κ = true ∧ jin j n = true then some (1, M.2.2.2 κ j.toNatClampNeg a :: r, M) else none
    | none => none
  | .iastore, .int x :: .int j :: .ref a :: r => match M.2.2.1 a with
    | some (κ, n) => if (κ < 90 ∧ jkt κ = some .int) ∧ jin j n = true then some (1, r, M.1, M.2.1, M.2.2.1, jset M.2.2.2 κ j.toNatClampNeg a (.int x)) else none
    | none => none
  | .lastore, .long x :: .int j :: .ref a :: r => match M.2.2.1 a with
    | some (κ, n) => if (κ < 90 ∧ jkt κ = some .long) ∧ jin j n = true then some (1, r, M.1, M.2.1, M.2.2.1, jset M.2.2.2 κ j.toNatClampNeg a (.long x)) else none
    | none => none
  | .bastore, .int x :: .int j :: .ref a :: r => match M.2.2.1 a with
    | some (κ, n) => if (κ < 90 ∧ jkt κ = some .boolean) ∧ jfits .boolean (.int x) = true ∧ jin j n = true then some (1, r, M.1, M.2.1, M.2.2.1, jset M.2.2.2 κ j.toNatClampNeg a (.int x)) else none
    | none => none
  | .aastore, .ref v :: .int j :: .ref a :: r => match M.2.2.1 a, M.2.2.1 v with
    | some (κ, n), some (κv, _) => if 50 ≤ κ ∧ κ < 90 ∧ jca κ κv = true ∧ jin j n = true then some (1, r, M.1, M.2.1, M.2.2.1, jset M.2.2.2 κ j.toNatClampNeg a (.ref v)) else none
    | _, _ => none
  | .aastore, .null :: .int j :: .ref a :: r => match M.2.2.1 a with
    | some (κ, n) => if κ < 90 ∧ jkr κ = true ∧ jin j n = true then some (1, r, M.1, M.2.1, M.2.2.1, jset M.2.2.2 κ j.toNatClampNeg a .null) else none
    | none => none
  | .getstatic idx, st => match jsg (jow μ) idx with
    | some k => some (3, sv k :: st, M)
    | none => none
  | .ldc idx, st => match jldc (jow μ) idx with
    | some (.inl x) => some (2, .int x :: st, M)
    | some (.inr k) => some (2, sv k :: st, M)
    | none => none
  | .ldc2_w idx, st => match jldl (jow μ) idx with
    | some x => some (3, .long x :: st, M)
    | none => none
  | .checkcast _, .null :: r => some (3, .null :: r, M)
  | .checkcast idx, .ref a :: r => match M.2.2.1 a with
    | some (κ, _) => if jck (jow μ) idx κ = true then some (3, .ref a :: r, M) else none
    | none => none
  | _, _ => none
/-- what a copied element must be -/
def jel (ty : FieldType) (κ : Nat) (g : jG) (v : Value) : Bool := fits ty v && match v with
  | .ref y => match g y with
    | some (κy, _) => jca κ κy
    | none => false
  | _ => true
def jcat (st : List Value) : Nat := (st.map fun v => v.category).sum
/-- arraycopy -/
def jcpy (st : List Value) (M : jM) : Option (List Value × jM) := match st with
  | .int x :: .int dp :: .ref a :: .int sp :: .ref a0 :: r => match M.2.2.1 a0, M.2.2.1 a with
    | some (κ0, n0), some (κ, n) => match jkt κ with
      | some ty => if jcat r ≤ 8 ∧ (50 ≤ κ0 ∧ 50 ≤ κ ∧ κ < 90 ∧ jkt κ0 = some ty) ∧ (¬ sp < 0 ∧ ¬ dp < 0 ∧ ¬ x < 0) ∧ (sp.toNatClampNeg + x.toNatClampNeg ≤ n0 ∧ dp.toNatClampNeg + x.toNatClampNeg ≤ n) ∧ ∀ i, i < x.toNatClampNeg → jel ty κ M.2.2.1 (M.2.2.2 κ0 (sp.toNatClampNeg + i) a0) = true
        then some (r, M.1, M.2.1, M.2.2.1, jput M.2.2.2 κ a (va_cpy (fun k => M.2.2.2 κ0 k a0) (fun k => M.2.2.2 κ k a) sp.toNatClampNeg dp.toNatClampNeg x.toNatClampNeg)) else none
      | none => none
    | _, _ => none
  | _ => none
/-- natives: Object's constructor, arraycopy, max and min, getClass -/
def jnatv (sv : Nat → Value) (μ : Nat) (i : ClassFile.Instr) (st : List Value) (M : jM) : Option (List Value × jM) := match i with
  | .invokespecial idx => if jnt (jow μ) idx = some 0 then match st with
    | .ref _ :: r => if jcat r ≤ 8 then some (r, M) else none
    | _ => none
    else none
  | .invokestatic idx => match jnt (jow μ) idx with
    | some c => if c = 1 then jcpy st M else if c = 3 then match st with
      | .int y :: .int x :: r => if jcat r ≤ 8 then some (.int (if x < y then y else x) :: r, M) else none
      | _ => none
      else if c = 4 then match st with
      | .int y :: .int x :: r => if jcat r ≤ 8 then some (.int (if y < x then y else x) :: r, M) else none
      | _ => none
      else none
    | none => none
  | .invokevirtual idx => if jnt (jow μ) idx = some 2 then match st with
    | .ref a :: r => if jcat r ≤ 8 then match M.2.2.1 a with
      | some (κ, _) => match jmi κ with
        | some k => some (sv k :: r, M)
        | none => none
      | none => none
      else none
    | _ => none
    else none
  | _ => none
/-- calls: the callee's first frame, and the frame behind the call without the answer -/
def jcall (μ pc : Nat) (L : jL) (i : ClassFile.Instr) (st : List Value) (M : jM) : Option (jF × jF) := match i with
  | .invokevirtual idx => match jmt (jow μ) idx with
    | some (md, μ', n, κ) => if md = 0 then match st.drop n with
      | .ref b :: r => if (M.2.2.1 b).map Prod.fst = some κ ∧ jcat r ≤ 8 ∧ n ≤ st.length ∧ (jarg (.ref b :: (st.take n).reverse)).length ≤ jmaxl μ' then some ((μ', 0, jent (jmaxl μ') (.ref b :: (st.take n).reverse), []), (μ, pc + 3, L, r)) else none
      | _ => none
      else none
    | none => none
  | .invokespecial idx => match jmt (jow μ) idx with
    | some (md, μ', n, _) => if md = 1 then match st.drop n with
      | .ref b :: r => if jcat r ≤ 8 ∧ n ≤ st.length ∧ (jarg (.ref b :: (st.take n).reverse)).length ≤ jmaxl μ' then some ((μ', 0, jent (jmaxl μ') (.ref b :: (st.take n).reverse), []), (μ, pc + 3, L, r)) else none
      | _ => none
      else none
    | none => none
  | .invokestatic idx => match jmt (jow μ) idx with
    | some (md, μ', n, _) => if md = 2 then if jcat (st.drop n) ≤ 8 ∧ n ≤ st.length ∧ (jarg (st.take n).reverse).length ≤ jmaxl μ' then some ((μ', 0, jent (jmaxl μ') (st.take n).reverse, []), (μ, pc + 3, L, st.drop n)) else none
      else none
    | none => none
  | _ => none
def jrt (μ : Nat) (i : ClassFile.Instr) (st : List Value) : Option (Option Value) := match i, st with
  | .ireturn, [.int v] => if jret μ = some .int ∨ (jret μ = some .boolean ∧ jfits .boolean (.int v) = true) then some (some (.int v)) else none
  | .lreturn, [.long v] => if jret μ = some .long then some (some (.long v)) else none
  | .areturn, [.ref a] => if (jret μ).any (·.isReference) = true then some (some (.ref a)) else none
  | .areturn, [.null] => if (jret μ).any (·.isReference) = true then some (some .null) else none
  | .return_, [] => if jret μ = none then some none else none
  | _, _ => none
/-- the class's at has no such line or column: what it tests, read off the cells -/
def jno (M : jM) (o : Nat) (x y : Int32) : Bool := match M.2.2.1 o, M.2.2.2 6 8 o with
  | some (6, _), .ref pr => match M.2.2.1 pr, M.2.2.2 3 1 pr with
    | some (3, _), .int c => decide (x < 0 ∨ ¬ x < c ∨ y < 0 ∨ ¬ y < 5)
    | _, _ => false
  | _, _ => false
/-- the law's own at: caught throw (10: calls below), or a call -/
def jlt (μ pc : Nat) (L : jL) (i : ClassFile.Instr) (st : List Value) (M : jM) : Option jS := match i, st with
  | .invokestatic 66, .ref b :: .int y :: .int x :: .ref o :: r => if μ = 110 ∧ jcat r ≤ 8 then if jno M o x y = true then some (.inl (10, (μ, pc + 3, L, .int 1 :: r), M.1 + 1, M.2.1 + 6, M.2.2.1, M.2.2.2)) else some (.inr (.inr ((109, 0, [some (.ref o), some (.int x), some (.int y), some (.ref b), none], []), (μ, pc + 3, L, r)))) else none
  | _, _ => none
/-- a step: goes on (0: with no call, 1: with one native call), returns, or calls -/
def jex (sv : Nat → Value) (μ pc : Nat) (L : jL) (st : List Value) (M : jM) (i : ClassFile.Instr) (len : Nat) : Option jS :=
  match jpure i L st with
  | some (n, L', st') => if n = len then some (.inl (0, (μ, pc + n, L', st'), M)) else none
  | none => match jbr i len pc st with
    | some (t, st') => some (.inl (0, (μ, t, L, st'), M))
    | none => match jmem sv μ pc i st M with
      | some (n, st', M') => if n = len then some (.inl (0, (μ, pc + n, L, st'), M')) else none
      | none => match jrt μ i st with
        | some r => if len = 1 then some (.inr (.inl r)) else none
        | none => if len = 3 then match jnatv sv μ i st M with
          | some (st', M') => some (.inl (1, (μ, pc + 3, L, st'), M'))
          | none => match (jcall μ pc L i st M).map fun q => .inr (.inr q) with
            | some z => some z
            | none => jlt μ pc L i st M
          else none
def jstep (sv : Nat → Value) (F : jF) (M : jM) : Option jS := match decode (jcode F.1) F.2.1 with
  | .ok (i, len) => jex sv F.1 F.2.1 F.2.2.1 F.2.2.2 M i len
  | .error _ => none
