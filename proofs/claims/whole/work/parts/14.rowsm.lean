-- ===== rows of the typed memory =====
section JR2
variable {sv : Nat → Value} {d μ pc len t u κ k a n idx tgt : Nat} {L L' : jL} {st st' : List Value} {M : jM} {Q : Option Value → jM → Prop} {i : ClassFile.Instr} {g : jG} {I : tI} {J : tJ} {P : tP}
theorem R_getv (hd : decode (jcode μ) pc = .ok (.getfield idx, 3)) (hf : jfl (jow μ) idx = some (κ, k)) (ht : jt g a = some κ) : Ev sv d (μ, pc, L, .ref a :: st) (tv t u g I J P) Q ↔ Ev sv d (μ, pc + 3, L, tV I J P κ k a :: st) (tv t u g I J P) Q := by
  refine R_mem hd rfl rfl ?_
  unfold jmem tv
  dsimp only
  rw [hf, jt_of ht]
  dsimp only
  rw [if_pos rfl]
theorem R_geti (hd : decode (jcode μ) pc = .ok (.getfield idx, 3)) (hf : jfl (jow μ) idx = some (κ, k)) (hs : jso κ k = 0) (ht : jt g a = some κ) : Ev sv d (μ, pc, L, .ref a :: st) (tv t u g I J P) Q ↔ Ev sv d (μ, pc + 3, L, .int (I κ k a) :: st) (tv t u g I J P) Q := by
  rw [R_getv hd hf ht, tV_i hs]
theorem R_getl (hd : decode (jcode μ) pc = .ok (.getfield idx, 3)) (hf : jfl (jow μ) idx = some (κ, k)) (hs : jso κ k = 1) (ht : jt g a = some κ) : Ev sv d (μ, pc, L, .ref a :: st) (tv t u g I J P) Q ↔ Ev sv d (μ, pc + 3, L, .long (J κ k a) :: st) (tv t u g I J P) Q := by
  rw [R_getv hd hf ht, tV_l hs]
theorem R_geta (hd : decode (jcode μ) pc = .ok (.getfield idx, 3)) (hf : jfl (jow μ) idx = some (κ, k)) (hs : jso κ k = 2) (ht : jt g a = some κ) : Ev sv d (μ, pc, L, .ref a :: st) (tv t u g I J P) Q ↔ Ev sv d (μ, pc + 3, L, va_rf (P κ k a) :: st) (tv t u g I J P) Q := by
  rw [R_getv hd hf ht, tV_a hs]
theorem R_putv {v : Value} (hd : decode (jcode μ) pc = .ok (.putfield idx, 3)) (hf : jfl (jow μ) idx = some (κ, k)) (hpf : jpf μ κ k = true) (hv : jfits (jty κ k) v = true) (ht : jt g a = some κ) : Ev sv d (μ, pc, L, v :: .ref a :: st) (tv t u g I J P) Q ↔ Ev sv d (μ, pc + 3, L, st) (t, u, g, jset (tV I J P) κ k a v) Q := by
  have h : jmem sv μ pc (.putfield idx) (v :: .ref a :: st) (tv t u g I J P) = some (3, st, t, u, g, jset (tV I J P) κ k a v) := by
    unfold jmem tv
    dsimp only
    rw [hf, jt_of ht]
    dsimp only
    rw [if_pos ⟨rfl, hpf, hv⟩]
  exact R_mem hd rfl rfl h
theorem R_puti {x : Int32} (hd : decode (jcode μ) pc = .ok (.putfield idx, 3)) (hf : jfl (jow μ) idx = some (κ, k)) (hpf : jpf μ κ k = true) (hty : jty κ k = .int) (hs : jso κ k = 0) (ht : jt g a = some κ) : Ev sv d (μ, pc, L, .int x :: .ref a :: st) (tv t u g I J P) Q ↔ Ev sv d (μ, pc + 3, L, st) (tv t u g (ups I κ k a x) J P) Q := by
  rw [R_putv hd hf hpf (by rw [hty]; rfl) ht, jset_i hs]
  rfl
theorem R_putz {x : Int32} (hd : decode (jcode μ) pc = .ok (.putfield idx, 3)) (hf : jfl (jow μ) idx = some (κ, k)) (hpf : jpf μ κ k = true) (hty : jty κ k = .boolean) (hs : jso κ k = 0) (ht : jt g a = some κ) (hx : bz x) : Ev sv d (μ, pc, L, .int x :: .ref a :: st) (tv t u g I J P) Q ↔ Ev sv d (μ, pc + 3, L, st) (tv t u g (ups I κ k a x) J P) Q := by
  rw [R_putv hd hf hpf (by rw [hty]; exact bz_fits hx) ht, jset_i hs]
  rfl
theorem R_putl {x : Int64} (hd : decode (jcode μ) pc = .ok (.putfield idx, 3)) (hf : jfl (jow μ) idx = some (κ, k)) (hpf : jpf μ κ k = true) (hty : jty κ k = .long) (hs : jso κ k = 1) (ht : jt g a = some κ) : Ev sv d (μ, pc, L, .long x :: .ref a :: st) (tv t u g I J P) Q ↔ Ev sv d (μ, pc + 3, L, st) (tv t u g I (ups J κ k a x) P) Q := by
  rw [R_putv hd hf hpf (by rw [hty]; rfl) ht, jset_l hs]
  rfl
/-- a reference into a field -/
def jrty (ty : FieldType) : Bool := match ty with
  | .object _ => true
  | .array _ => true
  | _ => false
theorem R_puta {r : Option Nat} (hd : decode (jcode μ) pc = .ok (.putfield idx, 3)) (hf : jfl (jow μ) idx = some (κ, k)) (hpf : jpf μ κ k = true) (hty : jrty (jty κ k) = true) (hs : jso κ k = 2) (ht : jt g a = some κ) : Ev sv d (μ, pc, L, va_rf r :: .ref a :: st) (tv t u g I J P) Q ↔ Ev sv d (μ, pc + 3, L, st) (tv t u g I J (ups P κ k a r)) Q := by
  have hv : jfits (jty κ k) (va_rf r) = true := by
    cases h : jty κ k <;> rw [h] at hty <;> first | (cases hty; done) | (cases r <;> rfl)
  rw [R_putv hd hf hpf hv ht, jset_a hs]
  rfl
theorem R_new {N w : Nat} (hd : decode (jcode μ) pc = .ok (.new idx, 3)) (hf : jnw (jow μ) idx = some (κ, N, w)) (hdf : ∀ k, defaultValue (jty κ k) = jdf κ k) : Ev sv d (μ, pc, L, st) (tv t u g I J P) Q ↔ Ev sv d (μ, pc + 3, L, .ref t :: st) (tv (t + 1) (u + w) (jgset g t (κ, N)) (upc I κ t (fun _ => 0)) (upc J κ t (fun _ => 0)) (upc P κ t (fun _ => none))) Q := by
  have h : jmem sv μ pc (.new idx) st (tv t u g I J P) = some (3, .ref t :: st, tv (t + 1) (u + w) (jgset g t (κ, N)) (upc I κ t (fun _ => 0)) (upc J κ t (fun _ => 0)) (upc P κ t (fun _ => none))) := by
    unfold jmem tv
    dsimp only
    rw [hf]
    dsimp only
    rw [jput_df hdf]
  exact R_mem hd rfl rfl h
theorem R_newa {aty : ArrayType} {x : Int32} {nn : Nat} (hd : decode (jcode μ) pc = .ok (.newarray aty, 2)) (hf : jna μ pc aty = some κ) (hdf : ∀ k, defaultValue (newarray.typeOf aty) = jdf κ k) (h0 : ¬ x < 0) (hx : x.toNatClampNeg = nn) (hn : nn ≤ 1000000) : Ev sv d (μ, pc, L, .int x :: st) (tv t u g I J P) Q ↔ Ev sv d (μ, pc + 2, L, .ref t :: st) (tv (t + 1) (u + nn) (jgset g t (κ, nn)) (upc I κ t (fun _ => 0)) (upc J κ t (fun _ => 0)) (upc P κ t (fun _ => none))) Q := by
  subst hx
  have h : jmem sv μ pc (.newarray aty) (.int x :: st) (tv t u g I J P) = some (2, .ref t :: st, tv (t + 1) (u + x.toNatClampNeg) (jgset g t (κ, x.toNatClampNeg)) (upc I κ t (fun _ => 0)) (upc J κ t (fun _ => 0)) (upc P κ t (fun _ => none))) := by
    unfold jmem tv
    dsimp only
    rw [hf]
    dsimp only
    rw [if_pos ⟨h0, hn⟩, jput_df hdf]
  exact R_mem hd rfl rfl h
theorem R_anew {x : Int32} (hd : decode (jcode μ) pc = .ok (.anewarray idx, 3)) (hf : janw (jow μ) idx = some κ) (hdf : ∀ k, Value.null = jdf κ k) (h0 : ¬ x < 0) (hn : x.toNatClampNeg ≤ 1000000) : Ev sv d (μ, pc, L, .int x :: st) (tv t u g I J P) Q ↔ Ev sv d (μ, pc + 3, L, .ref t :: st) (tv (t + 1) (u + x.toNatClampNeg) (jgset g t (κ, x.toNatClampNeg)) (upc I κ t (fun _ => 0)) (upc J κ t (fun _ => 0)) (upc P κ t (fun _ => none))) Q := by
  have h : jmem sv μ pc (.anewarray idx) (.int x :: st) (tv t u g I J P) = some (3, .ref t :: st, tv (t + 1) (u + x.toNatClampNeg) (jgset g t (κ, x.toNatClampNeg)) (upc I κ t (fun _ => 0)) (upc J κ t (fun _ => 0)) (upc P κ t (fun _ => none))) := by
    unfold jmem tv
    dsimp only
    rw [hf]
    dsimp only
    rw [if_pos ⟨h0, hn⟩, jput_df hdf]
  exact R_mem hd rfl rfl h
theorem R_len (hd : decode (jcode μ) pc = .ok (.arraylength, 1)) (hκ : 50 ≤ κ) (ht : jt g a = some κ) : Ev sv d (μ, pc, L, .ref a :: st) (tv t u g I J P) Q ↔ Ev sv d (μ, pc + 1, L, .int (Int32.ofNat (jn g a)) :: st) (tv t u g I J P) Q := by
  have h : jmem sv μ pc .arraylength (.ref a :: st) (tv t u g I J P) = some (1, .int (Int32.ofNat (jn g a)) :: st, tv t u g I J P) := by
    unfold jmem tv
    dsimp only
    rw [jt_of ht]
    dsimp only
    rw [if_pos hκ]
  exact R_mem hd rfl rfl h
theorem R_iald {j : Int32} (hd : decode (jcode μ) pc = .ok (.iaload, 1)) (hk : jkt κ = some .int) (ht : jt g a = some κ) (hj : jin j (jn g a) = true) : Ev sv d (μ, pc, L, .int j :: .ref a :: st) (tv t u g I J P) Q ↔ Ev sv d (μ, pc + 1, L, .int (I κ j.toNatClampNeg a) :: st) (tv t u g I J P) Q := by
  have h : jmem sv μ pc .iaload (.int j :: .ref a :: st) (tv t u g I J P) = some (1, .int (I κ j.toNatClampNeg a) :: st, tv t u g I J P) := by
    unfold jmem tv
    dsimp only
    rw [jt_of ht]
    dsimp only
    rw [if_pos ⟨hk, hj⟩, tV_i (by rw [jso_arr (jkt_50 hk) hk]; rfl)]
  exact R_mem hd rfl rfl h
theorem R_zald {j : Int32} (hd : decode (jcode μ) pc = .ok (.baload, 1)) (hk : jkt κ = some .boolean) (ht : jt g a = some κ) (hj : jin j (jn g a) = true) : Ev sv d (μ, pc, L, .int j :: .ref a :: st) (tv t u g I J P) Q ↔ Ev sv d (μ, pc + 1, L, .int (I κ j.toNatClampNeg a) :: st) (tv t u g I J P) Q := by
  have h : jmem sv μ pc .baload (.int j :: .ref a :: st) (tv t u g I J P) = some (1, .int (I κ j.toNatClampNeg a) :: st, tv t u g I J P) := by
    unfold jmem tv
    dsimp only
    rw [jt_of ht]
    dsimp only
    rw [if_pos ⟨hk, hj⟩, tV_i (by rw [jso_arr (jkt_50 hk) hk]; rfl)]
  exact R_mem hd rfl rfl h
theorem R_lald {j : Int32} (hd : decode (jcode μ) pc = .ok (.laload, 1)) (hk : jkt κ = some .long) (ht : jt g a = some κ) (hj : jin j (jn g a) = true) : Ev sv d (μ, pc, L, .int j :: .ref a :: st) (tv t u g I J P) Q ↔ Ev sv d (μ, pc + 1, L, .long (J κ j.toNatClampNeg a) :: st) (tv t u g I J P) Q := by
  have h : jmem sv μ pc .laload (.int j :: .ref a :: st) (tv t u g I J P) = some (1, .long (J κ j.toNatClampNeg a) :: st, tv t u g I J P) := by
    unfold jmem tv
    dsimp only
    rw [jt_of ht]
    dsimp only
    rw [if_pos ⟨hk, hj⟩, tV_l (by rw [jso_arr (jkt_50 hk) hk]; rfl)]
  exact R_mem hd rfl rfl h
theorem R_aald {j : Int32} (hd : decode (jcode μ) pc = .ok (.aaload, 1)) (hk : jkr κ = true) (ht : jt g a = some κ) (hj : jin j (jn g a) = true) : Ev sv d (μ, pc, L, .int j :: .ref a :: st) (tv t u g I J P) Q ↔ Ev sv d (μ, pc + 1, L, va_rf (P κ j.toNatClampNeg a) :: st) (tv t u g I J P) Q := by
  have hkt := jkr_ok hk
  have h : jmem sv μ pc .aaload (.int j :: .ref a :: st) (tv t u g I J P) = some (1, va_rf (P κ j.toNatClampNeg a) :: st, tv t u g I J P) := by
    unfold jmem tv
    dsimp only
    rw [jt_of ht]
    dsimp only
    rw [if_pos ⟨hk, hj⟩, tV_a (by rw [jso_arr (jkt_50 hkt) hkt]; rfl)]
  exact R_mem hd rfl rfl h
theorem R_iast {j x : Int32} (hd : decode (jcode μ) pc = .ok (.iastore, 1)) (hκ : κ < 90) (hk : jkt κ = some .int) (ht : jt g a = some κ) (hj : jin j (jn g a) = true) : Ev sv d (μ, pc, L, .int x :: .int j :: .ref a :: st) (tv t u g I J P) Q ↔ Ev sv d (μ, pc + 1, L, st) (tv t u g (ups I κ j.toNatClampNeg a x) J P) Q := by
  have h : jmem sv μ pc .iastore (.int x :: .int j :: .ref a :: st) (tv t u g I J P) = some (1, st, tv t u g (ups I κ j.toNatClampNeg a x) J P) := by
    unfold jmem tv
    dsimp only
    rw [jt_of ht]
    dsimp only
    rw [if_pos ⟨⟨hκ, hk⟩, hj⟩, jset_i (by rw [jso_arr (jkt_50 hk) hk]; rfl)]
  exact R_mem hd rfl rfl h
theorem R_zast {j x : Int32} (hd : decode (jcode μ) pc = .ok (.bastore, 1)) (hκ : κ < 90) (hk : jkt κ = some .boolean) (ht : jt g a = some κ) (hx : bz x) (hj : jin j (jn g a) = true) : Ev sv d (μ, pc, L, .int x :: .int j :: .ref a :: st) (tv t u g I J P) Q ↔ Ev sv d (μ, pc + 1, L, st) (tv t u g (ups I κ j.toNatClampNeg a x) J P) Q := by
  have h : jmem sv μ pc .bastore (.int x :: .int j :: .ref a :: st) (tv t u g I J P) = some (1, st, tv t u g (ups I κ j.toNatClampNeg a x) J P) := by
    unfold jmem tv
    dsimp only
    rw [jt_of ht]
    dsimp only
    rw [if_pos ⟨⟨hκ, hk⟩, bz_fits hx, hj⟩, jset_i (by rw [jso_arr (jkt_50 hk) hk]; rfl)]
  exact R_mem hd rfl rfl h
theorem R_last {j : Int32} {x : Int64} (hd : decode (jcode μ) pc = .ok (.lastore, 1)) (hκ : κ < 90) (hk : jkt κ = some .long) (ht : jt g a = some κ) (hj : jin j (jn g a) = true) : Ev sv d (μ, pc, L, .long x :: .int j :: .ref a :: st) (tv t u g I J P) Q ↔ Ev sv d (μ, pc + 1, L, st) (tv t u g I (ups J κ j.toNatClampNeg a x) P) Q := by
  have h : jmem sv μ pc .lastore (.long x :: .int j :: .ref a :: st) (tv t u g I J P) = some (1, st, tv t u g I (ups J κ j.toNatClampNeg a x) P) := by
    unfold jmem tv
    dsimp only
    rw [jt_of ht]
    dsimp only
    rw [if_pos ⟨⟨hκ, hk⟩, hj⟩, jset_l (by rw [jso_arr (jkt_50 hk) hk]; rfl)]
  exact R_mem hd rfl rfl h
theorem R_aast {j : Int32} {v κv : Nat} (hd : decode (jcode μ) pc = .ok (.aastore, 1)) (ht : jt g a = some 53) (hv : jt g v = some κv) (hca : jca 53 κv = true) (hj : jin j (jn g a) = true) : Ev sv d (μ, pc, L, .ref v :: .int j :: .ref a :: st) (tv t u g I J P) Q ↔ Ev sv d (μ, pc + 1, L, st) (tv t u g I J (ups P 53 j.toNatClampNeg a (some v))) Q := by
  have h : jmem sv μ pc .aastore (.ref v :: .int j :: .ref a :: st) (tv t u g I J P) = some (1, st, tv t u g I J (ups P 53 j.toNatClampNeg a (some v))) := by
    unfold jmem tv
    dsimp only
    rw [jt_of ht, jt_of hv]
    dsimp only
    rw [if_pos ⟨by decide, by decide, hca, hj⟩]
    have e := jset_a (I := I) (J := J) (P := P) (κ := 53) (k := j.toNatClampNeg) (a := a) (r := some v) (by rw [jso_arr (by decide) (ty := .object "java/lang/Object") rfl]; rfl)
    rw [← e]
    rfl
  exact R_mem hd rfl rfl h
theorem R_gets (hd : decode (jcode μ) pc = .ok (.getstatic idx, 3)) (hf : jsg (jow μ) idx = some k) : Ev sv d (μ, pc, L, st) M Q ↔ Ev sv d (μ, pc + 3, L, sv k :: st) M Q := by
  refine R_mem hd rfl rfl ?_
  unfold jmem
  dsimp only
  rw [hf]
theorem R_ldci {x : Int32} (hd : decode (jcode μ) pc = .ok (.ldc idx, 2)) (hf : jldc (jow μ) idx = some (.inl x)) : Ev sv d (μ, pc, L, st) M Q ↔ Ev sv d (μ, pc + 2, L, .int x :: st) M Q := by
  refine R_mem hd rfl rfl ?_
  unfold jmem
  dsimp only
  rw [hf]
theorem R_ldcm (hd : decode (jcode μ) pc = .ok (.ldc idx, 2)) (hf : jldc (jow μ) idx = some (.inr k)) : Ev sv d (μ, pc, L, st) M Q ↔ Ev sv d (μ, pc + 2, L, sv k :: st) M Q := by
  refine R_mem hd rfl rfl ?_
  unfold jmem
  dsimp only
  rw [hf]
theorem R_ldc2 {x : Int64} (hd : decode (jcode μ) pc = .ok (.ldc2_w idx, 3)) (hf : jldl (jow μ) idx = some x) : Ev sv d (μ, pc, L, st) M Q ↔ Ev sv d (μ, pc + 3, L, .long x :: st) M Q := by
  refine R_mem hd rfl rfl ?_
  unfold jmem
  dsimp only
  rw [hf]
theorem R_cast (hd : decode (jcode μ) pc = .ok (.checkcast idx, 3)) (hf : jck (jow μ) idx κ = true) (ht : jt g a = some κ) : Ev sv d (μ, pc, L, .ref a :: st) (tv t u g I J P) Q ↔ Ev sv d (μ, pc + 3, L, .ref a :: st) (tv t u g I J P) Q := by
  refine R_mem hd rfl rfl ?_
  unfold jmem tv
  dsimp only
  rw [jt_of ht]
  dsimp only
  rw [if_pos hf]
-- natives
theorem R_objinit (hd : decode (jcode μ) pc = .ok (.invokespecial idx, 3)) (hf : jnt (jow μ) idx = some 0) (hc : jcat st ≤ 8) : Ev sv (d + 1) (μ, pc, L, .ref a :: st) M Q ↔ Ev sv (d + 1) (μ, pc + 3, L, st) M Q := by
  refine R_nat hd rfl rfl rfl rfl ?_
  unfold jnatv
  dsimp only
  rw [if_pos hf, if_pos hc]
theorem R_max {x y : Int32} (hd : decode (jcode μ) pc = .ok (.invokestatic idx, 3)) (hf : jnt (jow μ) idx = some 3) (hc : jcat st ≤ 8) : Ev sv (d + 1) (μ, pc, L, .int y :: .int x :: st) M Q ↔ Ev sv (d + 1) (μ, pc + 3, L, .int (if x < y then y else x) :: st) M Q := by
  refine R_nat hd rfl rfl rfl rfl ?_
  unfold jnatv
  dsimp only
  rw [hf]
  dsimp only
  rw [if_neg (by decide), if_pos rfl, if_pos hc]
theorem R_min {x y : Int32} (hd : decode (jcode μ) pc = .ok (.invokestatic idx, 3)) (hf : jnt (jow μ) idx = some 4) (hc : jcat st ≤ 8) : Ev sv (d + 1) (μ, pc, L, .int y :: .int x :: st) M Q ↔ Ev sv (d + 1) (μ, pc + 3, L, .int (if y < x then y else x) :: st) M Q := by
  refine R_nat hd rfl rfl rfl rfl ?_
  unfold jnatv
  dsimp only
  rw [hf]
  dsimp only
  rw [if_neg (by decide), if_neg (by decide), if_pos rfl, if_pos hc]
theorem R_getC (hd : decode (jcode μ) pc = .ok (.invokevirtual idx, 3)) (hf : jnt (jow μ) idx = some 2) (hm : jmi κ = some k) (ht : jt g a = some κ) (hc : jcat st ≤ 8) : Ev sv (d + 1) (μ, pc, L, .ref a :: st) (tv t u g I J P) Q ↔ Ev sv (d + 1) (μ, pc + 3, L, sv k :: st) (tv t u g I J P) Q := by
  refine R_nat hd rfl rfl rfl rfl ?_
  unfold jnatv tv
  dsimp only
  rw [if_pos hf, if_pos hc, jt_of ht]
  dsimp only
  rw [hm]
theorem R_copyi {a0 κ0 : Nat} {x sp dp : Int32} (hd : decode (jcode μ) pc = .ok (.invokestatic idx, 3)) (hf : jnt (jow μ) idx = some 1) (hk0 : jkt κ0 = some .int) (hk : jkt κ = some .int) (hκ : κ < 90) (ht0 : jt g a0 = some κ0) (ht : jt g a = some κ) (hs : ¬ sp < 0 ∧ ¬ dp < 0 ∧ ¬ x < 0) (hl : sp.toNatClampNeg + x.toNatClampNeg ≤ jn g a0 ∧ dp.toNatClampNeg + x.toNatClampNeg ≤ jn g a) (hc : jcat st ≤ 8) :
    Ev sv (d + 1) (μ, pc, L, .int x :: .int dp :: .ref a :: .int sp :: .ref a0 :: st) (tv t u g I J P) Q ↔ Ev sv (d + 1) (μ, pc + 3, L, st) (tv t u g (upc I κ a (va_cpy (fun k => I κ0 k a0) (fun k => I κ k a) sp.toNatClampNeg dp.toNatClampNeg x.toNatClampNeg)) J P) Q := by
  have s0 : ∀ k, jso κ0 k = 0 := fun k => by rw [jso_arr (jkt_50 hk0) hk0]; rfl
  have s1 : ∀ k, jso κ k = 0 := fun k => by rw [jso_arr (jkt_50 hk) hk]; rfl
  refine R_nat hd rfl rfl rfl rfl ?_
  unfold jnatv tv
  dsimp only
  rw [hf]
  dsimp only
  rw [if_pos rfl]
  unfold jcpy
  dsimp only
  rw [jt_of ht0, jt_of ht]
  dsimp only
  rw [hk]
  dsimp only
  rw [if_pos ⟨hc, ⟨jkt_50 hk0, jkt_50 hk, hκ, hk0⟩, hs, hl, fun i _ => by rw [tV_i (s0 _)]; rfl⟩, jput_ci s1 s0]
/-- an element that an array of Objects takes -/
def jok (g : jG) (r : Option Nat) : Prop := ∀ y, r = some y → jt g y = some 2 ∨ jt g y = some 4 ∨ jt g y = some 5
theorem jok_el {r : Option Nat} (h : jok g r) : jel (.object "java/lang/Object") 53 g (va_rf r) = true := by
  cases r with
  | none => rfl
  | some y =>
    unfold jel
    have e : fits (.object "java/lang/Object") (va_rf (some y)) = true := rfl
    rw [e]
    show (match g y with | some (κy, _) => jca 53 κy | none => false) = true
    rcases h y rfl with h | h | h <;> rw [jt_of h] <;> rfl
theorem R_copya {a0 κ0 : Nat} {x sp dp : Int32} (hd : decode (jcode μ) pc = .ok (.invokestatic idx, 3)) (hf : jnt (jow μ) idx = some 1) (hk0 : jkr κ0 = true) (ht0 : jt g a0 = some κ0) (ht : jt g a = some 53) (hs : ¬ sp < 0 ∧ ¬ dp < 0 ∧ ¬ x < 0) (hl : sp.toNatClampNeg + x.toNatClampNeg ≤ jn g a0 ∧ dp.toNatClampNeg + x.toNatClampNeg ≤ jn g a) (hel : ∀ i, i < x.toNatClampNeg → jok g (P κ0 (sp.toNatClampNeg + i) a0)) (hc : jcat st ≤ 8) :
    Ev sv (d + 1) (μ, pc, L, .int x :: .int dp :: .ref a :: .int sp :: .ref a0 :: st) (tv t u g I J P) Q ↔ Ev sv (d + 1) (μ, pc + 3, L, st) (tv t u g I J (upc P 53 a (va_cpy (fun k => P κ0 k a0) (fun k => P 53 k a) sp.toNatClampNeg dp.toNatClampNeg x.toNatClampNeg))) Q := by
  have hkt0 := jkr_ok hk0
  have s0 : ∀ k, jso κ0 k = 2 := fun k => by rw [jso_arr (jkt_50 hkt0) hkt0]; rfl
  have hkt : jkt 53 = some (.object "java/lang/Object") := rfl
  have s1 : ∀ k, jso 53 k = 2 := fun k => by rw [jso_arr (by decide) hkt]; rfl
  refine R_nat hd rfl rfl rfl rfl ?_
  unfold jnatv tv
  dsimp only
  rw [hf]
  dsimp only
  rw [if_pos rfl]
  unfold jcpy
  dsimp only
  rw [jt_of ht0, jt_of ht]
  dsimp only
  rw [hkt]
  dsimp only
  rw [if_pos ⟨hc, ⟨jkt_50 hkt0, by decide, by decide, hkt0⟩, hs, hl, fun i hi => by rw [tV_a (s0 _)]; exact jok_el (hel i hi)⟩, jput_ca s1 s0]
-- calls
theorem R_callV {μ' b : Nat} {as : List Value} (hd : decode (jcode μ) pc = .ok (.invokevirtual idx, 3)) (hn : jnt (jow μ) idx = none) (hf : jmt (jow μ) idx = some (0, μ', k, κ)) (hk : as.length = k) (ht : jt g b = some κ) (hc : jcat st ≤ 8) (hl : (jarg (.ref b :: as.reverse)).length ≤ jmaxl μ') :
    Ev sv (d + 1) (μ, pc, L, as ++ .ref b :: st) (tv t u g I J P) Q ↔ Ev sv d (μ', 0, jent (jmaxl μ') (.ref b :: as.reverse), []) (tv t u g I J P) (fun r M1 => Ev sv (d + 1) (μ, pc + 3, L, r.toList ++ st) M1 Q) := by
  subst hk
  refine R_call (Fe := (μ', 0, jent (jmaxl μ') (.ref b :: as.reverse), [])) (Fr := (μ, pc + 3, L, st)) hd rfl rfl ?_ rfl ?_ ?_
  · rfl
  · unfold jnatv
    dsimp only
    rw [hn]
    rfl
  · unfold jcall tv
    dsimp only
    rw [hf]
    dsimp only
    rw [if_pos rfl, List.drop_left, List.take_left]
    dsimp only
    rw [if_pos ⟨ht, hc, by simp, hl⟩]
theorem R_callI {μ' b κ' : Nat} {as : List Value} (hd : decode (jcode μ) pc = .ok (.invokespecial idx, 3)) (hn : jnt (jow μ) idx = none) (hf : jmt (jow μ) idx = some (1, μ', k, κ')) (hk : as.length = k) (hc : jcat st ≤ 8) (hl : (jarg (.ref b :: as.reverse)).length ≤ jmaxl μ') :
    Ev sv (d + 1) (μ, pc, L, as ++ .ref b :: st) M Q ↔ Ev sv d (μ', 0, jent (jmaxl μ') (.ref b :: as.reverse), []) M (fun r M1 => Ev sv (d + 1) (μ, pc + 3, L, r.toList ++ st) M1 Q) := by
  subst hk
  refine R_call (Fe := (μ', 0, jent (jmaxl μ') (.ref b :: as.reverse), [])) (Fr := (μ, pc + 3, L, st)) hd rfl rfl ?_ rfl ?_ ?_
  · rfl
  · unfold jnatv
    dsimp only
    rw [hn]
    rfl
  · unfold jcall
    dsimp only
    rw [hf]
    dsimp only
    rw [if_pos rfl, List.drop_left, List.take_left]
    dsimp only
    rw [if_pos ⟨hc, by simp, hl⟩]
theorem R_callS {μ' κ' : Nat} {as : List Value} (hd : decode (jcode μ) pc = .ok (.invokestatic idx, 3)) (hn : jnt (jow μ) idx = none) (hf : jmt (jow μ) idx = some (2, μ', k, κ')) (hk : as.length = k) (hc : jcat st ≤ 8) (hl : (jarg as.reverse).length ≤ jmaxl μ') :
    Ev sv (d + 1) (μ, pc, L, as ++ st) M Q ↔ Ev sv d (μ', 0, jent (jmaxl μ') as.reverse, []) M (fun r M1 => Ev sv (d + 1) (μ, pc + 3, L, r.toList ++ st) M1 Q) := by
  subst hk
  refine R_call (Fe := (μ', 0, jent (jmaxl μ') as.reverse, [])) (Fr := (μ, pc + 3, L, st)) hd rfl rfl ?_ rfl ?_ ?_
  · rfl
  · unfold jnatv
    dsimp only
    rw [hn]
  · unfold jcall
    dsimp only
    rw [hf]
    dsimp only
    rw [if_pos rfl, List.drop_left, List.take_left, if_pos ⟨hc, by simp, hl⟩]
end JR2
-- ===== fresh objects
theorem jdf_0 : ∀ k, defaultValue (jty 0 k) = jdf 0 k
  | 0 => rfl
  | 1 => rfl
  | 2 => rfl
  | 3 => rfl
  | 4 => rfl
  | n + 5 => rfl
theorem jdf_1 : ∀ k, defaultValue (jty 1 k) = jdf 1 k
  | 0 => rfl
  | 1 => rfl
  | n + 2 => rfl
theorem jdf_2 : ∀ k, defaultValue (jty 2 k) = jdf 2 k
  | 0 => rfl
  | 1 => rfl
  | 2 => rfl
  | 3 => rfl
  | 4 => rfl
  | 5 => rfl
  | 6 => rfl
  | 7 => rfl
  | 8 => rfl
  | n + 9 => rfl
theorem jdf_3 : ∀ k, defaultValue (jty 3 k) = jdf 3 k
  | 0 => rfl
  | n + 1 => rfl
theorem jdf_4 : ∀ k, defaultValue (jty 4 k) = jdf 4 k
  | n => rfl
theorem jdf_5 : ∀ k, defaultValue (jty 5 k) = jdf 5 k
  | 0 => rfl
  | 1 => rfl
  | 2 => rfl
  | 3 => rfl
  | n + 4 => rfl
theorem jdf_6 : ∀ k, defaultValue (jty 6 k) = jdf 6 k
  | 0 => rfl
  | 1 => rfl
  | 2 => rfl
  | 3 => rfl
  | 4 => rfl
  | 5 => rfl
  | 6 => rfl
  | 7 => rfl
  | 8 => rfl
  | 9 => rfl
  | 10 => rfl
  | 11 => rfl
  | 12 => rfl
  | 13 => rfl
  | 14 => rfl
  | n + 15 => rfl
theorem jdf_7 : ∀ k, defaultValue (jty 7 k) = jdf 7 k
  | 0 => rfl
  | 1 => rfl
  | 2 => rfl
  | 3 => rfl
  | 4 => rfl
  | 5 => rfl
  | 6 => rfl
  | 7 => rfl
  | 8 => rfl
  | 9 => rfl
  | 10 => rfl
  | 11 => rfl
  | 12 => rfl
  | 13 => rfl
  | 14 => rfl
  | 15 => rfl
  | 16 => rfl
  | 17 => rfl
  | 18 => rfl
  | 19 => rfl
  | 20 => rfl
  | 21 => rfl
  | 22 => rfl
  | 23 => rfl
  | 24 => rfl
  | 25 => rfl
  | 26 => rfl
  | 27 => rfl
  | n + 28 => rfl
