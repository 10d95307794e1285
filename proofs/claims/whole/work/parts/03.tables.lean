-- ===== tables of the program: laid by wip/gen/gen_tables.py =====
def jtr (w : Cond) : Bool := match w with
  | .fieldLinkNest _ _ _ _ _ _ => true
  | .methodLinkNest _ _ _ _ => true
  | .castable _ _ => true
  | .declares _ => true
  | .arrayClass _ => true
  | .arrayOver (.object _) => true
  | w => w.onTables && w.keeps
def jwords : List Cond := lw_tbl.filter jtr
theorem jwords_tr : ∀ w ∈ jwords, jtr w = true := fun _ h => (List.mem_filter.mp h).2
theorem jmw {w : Cond} (p : Nat) (h : lw_tbl[p]? = some w) (ht : jtr w = true) : w ∈ jwords := List.mem_filter.mpr ⟨List.mem_of_getElem? h, ht⟩
theorem jin_p (ws : List Cond) (ps : List Nat) (hp : ws = ps.filterMap (fun i => lw_tbl[i]?)) (h : ws.all jtr = true) : ∀ w ∈ ws, w ∈ jwords := by
  intro w hw
  have h1 := List.all_eq_true.mp h w hw
  rw [hp] at hw
  obtain ⟨i, -, hi⟩ := List.mem_filterMap.mp hw
  exact jmw i hi h1
def jmT : List (MethodName × ByteArray × Nat × Option FieldType × Nat) := [(yX0_init, cX0_init, 4, none, 0), (yX0_addLine, cX0_addLine, 3, none, 0), (yX0_height, cX0_height, 1, (some FieldType.int), 0), (yX0_takesItsTurn, cX0_takesItsTurn, 2, (some FieldType.boolean), 0), (yX1_init, cX1_init, 1, none, 1), (yX1_clear, cX1_clear, 1, none, 1), (yX1_add, cX1_add, 9, none, 1), (yX1_has, cX1_has, 3, (some FieldType.boolean), 1), (yX1_cell, cX1_cell, 4, (some FieldType.int), 1), (yX2_init, cX2_init, 1, none, 2), (yX3_init, cX3_init, 5, none, 3), (yX4_init, cX4_init, 4, none, 4), (yX4_group, cX4_group, 4, (some FieldType.int), 4), (yX4_line, cX4_line, 6, (some FieldType.int), 4), (yX4_sum, cX4_sum, 5, (some FieldType.int), 4), (yX4_control, cX4_control, 2, (some FieldType.int), 4), (yX4_set, cX4_set, 4, (some FieldType.int), 4), (yX4_initiate, cX4_initiate, 2, (some FieldType.int), 4), (yX4_generate, cX4_generate, 7, (some FieldType.int), 4), (yX4_terminate, cX4_terminate, 1, (some FieldType.int), 4), (yX4_at, cX4_at, 3, (some FieldType.int), 4), (yX4_lines, cX4_lines, 1, (some FieldType.int), 4), (yX4_total, cX4_total, 3, (some FieldType.long), 4), (yX4_counter, cX4_counter, 2, (some FieldType.int), 4), (yX4_suppress, cX4_suppress, 3, (some FieldType.int), 4), (yX4_indicate, cX4_indicate, 4, (some FieldType.int), 4), (yX4_held, cX4_held, 3, (some FieldType.int), 4), (yX4_isOfBody, cX4_isOfBody, 1, (some FieldType.boolean), 4), (yX4_isKindOfLevel, cX4_isKindOfLevel, 4, (some FieldType.boolean), 4), (yX4_groupNumbered, cX4_groupNumbered, 2, (some (FieldType.object "ReportWriter$Group")), 4), (yX4_groupOf, cX4_groupOf, 5, (some (FieldType.object "ReportWriter$Group")), 4), (yX4_sumNumbered, cX4_sumNumbered, 2, (some (FieldType.object "ReportWriter$Sum")), 4), (yX4_firstSumOf, cX4_firstSumOf, 4, (some (FieldType.object "ReportWriter$Sum")), 4), (yX4_isSummable, cX4_isSummable, 4, (some FieldType.boolean), 4), (yX4_topmostLine, cX4_topmostLine, 2, (some FieldType.int), 4), (yX4_lowestLine, cX4_lowestLine, 2, (some FieldType.int), 4), (yX4_startOnNewPage, cX4_startOnNewPage, 4, (some FieldType.int), 4), (yX4_startInBody, cX4_startInBody, 2, (some FieldType.int), 4), (yX4_fitsWithLine, cX4_fitsWithLine, 5, (some FieldType.boolean), 4), (yX4_printInBody, cX4_printInBody, 6, none, 4), (yX4_beginPage, cX4_beginPage, 1, none, 4), (yX4_endPage, cX4_endPage, 1, none, 4), (yX4_countPage, cX4_countPage, 1, none, 4), (yX4_printOutsideBody, cX4_printOutsideBody, 2, none, 4), (yX4_printOnOwnPage, cX4_printOnOwnPage, 2, none, 4), (yX4_printFrom, cX4_printFrom, 6, none, 4), (yX4_changedLevel, cX4_changedLevel, 2, (some FieldType.int), 4), (yX4_printControlHeads, cX4_printControlHeads, 3, none, 4), (yX4_printControlFoots, cX4_printControlFoots, 5, none, 4), (yX4_addToSums, cX4_addToSums, 6, none, 4), (yX4_rollSums, cX4_rollSums, 5, none, 4), (yX4_resetSums, cX4_resetSums, 4, none, 4), (yX5_init, cX5_init, 4, none, 5), (yX5_held, cX5_held, 3, (some FieldType.int), 5), (yX5_thrown, cX5_thrown, 1, (some FieldType.int), 5), (yX5_isGroup, cX5_isGroup, 2, (some FieldType.boolean), 5), (yX5_isDetail, cX5_isDetail, 2, (some FieldType.boolean), 5), (yX5_find, cX5_find, 5, (some FieldType.int), 5), (yX5_group, cX5_group, 4, (some FieldType.int), 5), (yX5_fits, cX5_fits, 11, (some FieldType.boolean), 5), (yX5_line, cX5_line, 4, (some FieldType.int), 5), (yX5_isOf, cX5_isOf, 4, (some FieldType.boolean), 5), (yX5_sum, cX5_sum, 4, (some FieldType.int), 5), (yX5_control, cX5_control, 2, (some FieldType.int), 5), (yX5_set, cX5_set, 4, (some FieldType.int), 5), (yX5_suppress, cX5_suppress, 3, (some FieldType.int), 5), (yX5_indicate, cX5_indicate, 3, (some FieldType.int), 5), (yX5_put, cX5_put, 5, none, 5), (yX5_isOn, cX5_isOn, 3, (some FieldType.boolean), 5), (yX5_putAll, cX5_putAll, 6, none, 5), (yX5_putFrom, cX5_putFrom, 4, none, 5), (yX5_alone, cX5_alone, 3, none, 5), (yX5_begin, cX5_begin, 2, none, 5), (yX5_over, cX5_over, 2, none, 5), (yX5_fresh, cX5_fresh, 2, none, 5), (yX5_top, cX5_top, 2, (some FieldType.int), 5), (yX5_inBody, cX5_inBody, 5, none, 5), (yX5_head, cX5_head, 3, none, 5), (yX5_firstSum, cX5_firstSum, 4, (some FieldType.int), 5), (yX5_foot, cX5_foot, 6, none, 5), (yX5_keep, cX5_keep, 2, none, 5), (yX5_initiate, cX5_initiate, 2, (some FieldType.int), 5), (yX5_changed, cX5_changed, 3, (some FieldType.int), 5), (yX5_generate, cX5_generate, 7, (some FieldType.int), 5), (yX5_terminate, cX5_terminate, 2, (some FieldType.int), 5), (yX5_at, cX5_at, 3, (some FieldType.int), 5), (yX5_lines, cX5_lines, 1, (some FieldType.int), 5), (yX5_total, cX5_total, 2, (some FieldType.long), 5), (yX5_counter, cX5_counter, 2, (some FieldType.int), 5), (yJx00060_init_a7421, cJx00060_init_a7421, 2, none, 6), (yJ9_max_7cf53, cJ9_max_7cf53, 2, (some FieldType.int), 7), (yJ9_min_7cf53, cJ9_min_7cf53, 2, (some FieldType.int), 7), (yJxa1e45_init_da8c8, cJxa1e45_init_da8c8, 1, none, 8), (yJxc12de_init_da8c8, cJxc12de_init_da8c8, 1, none, 9), (yJx4a65c_init_da8c8, cJx4a65c_init_da8c8, 1, none, 10), (yJx4a65c_grow_92f84, cJx4a65c_grow_92f84, 4, (some (FieldType.array (FieldType.object "java/lang/Object"))), 10), (yJx4a65c_grow_d5877, cJx4a65c_grow_d5877, 1, (some (FieldType.array (FieldType.object "java/lang/Object"))), 10), (yJx4a65c_size_8abf5, cJx4a65c_size_8abf5, 1, (some FieldType.int), 10), (yJx4a65c_elementData_915e3, cJx4a65c_elementData_915e3, 2, (some (FieldType.object "java/lang/Object")), 10), (yJx4a65c_get_915e3, cJx4a65c_get_915e3, 2, (some (FieldType.object "java/lang/Object")), 10), (yJx4a65c_add_72be8, cJx4a65c_add_72be8, 4, none, 10), (yJx4a65c_add_9ea2d, cJx4a65c_add_9ea2d, 2, (some FieldType.boolean), 10), (yJ7_copyOf_1904c, cJ7_copyOf_1904c, 2, (some (FieldType.array (FieldType.object "java/lang/Object"))), 11), (yJ7_copyOf_6403c, cJ7_copyOf_6403c, 4, (some (FieldType.array (FieldType.object "java/lang/Object"))), 11), (yJ15_checkIndex_7cf53, cJ15_checkIndex_7cf53, 2, (some FieldType.int), 12), (yJ8_newLength_cabcc, cJ8_newLength_cabcc, 4, (some FieldType.int), 13), (yJ8_hugeLength_7cf53, cJ8_hugeLength_7cf53, 3, (some FieldType.int), 13), (yJ3_checkIndex_8e157, cJ3_checkIndex_8e157, 3, (some FieldType.int), 14), (yL_cell, cL_cell, 2, (some FieldType.int), 15), (yL_at, cL_at, 5, (some FieldType.int), 15), (yL_law, cL_law, 7, (some .boolean), 15)]
def jy (μ : Nat) : MethodName := match jmT[μ]? with
  | some q => q.1
  | none => ⟨"", "", ""⟩
def jcode (μ : Nat) : ByteArray := match jmT[μ]? with
  | some q => q.2.1
  | none => ⟨#[]⟩
def jmaxl (μ : Nat) : Nat := match jmT[μ]? with
  | some q => q.2.2.1
  | none => 0
def jret (μ : Nat) : Option FieldType := match jmT[μ]? with
  | some q => q.2.2.2.1
  | none => none
def jow (μ : Nat) : Nat := match jmT[μ]? with
  | some q => q.2.2.2.2
  | none => 999
def jcnT : List String := [RX0, RX1, RX2, RX3, RX4, RX5, RJx00060, RJ9, RJxa1e45, RJxc12de, RJx4a65c, RJ7, RJ15, RJ8, RJ3, RL]
def jcn (o : Nat) : String := match jcnT[o]? with
  | some q => q
  | none => ""
theorem jmT_cls : ∀ q ∈ jmT, q.1.cls = jcn q.2.2.2.2 := by decide +kernel
theorem jow_cn {μ : Nat} (h : jow μ ≠ 999) : (jy μ).cls = jcn (jow μ) := by
  unfold jow at h ⊢
  unfold jy
  cases hq : jmT[μ]? with
  | none => rw [hq] at h; exact absurd rfl h
  | some q => exact jmT_cls q (List.mem_of_getElem? hq)
def jty (κ : Nat) : Nat → FieldType := match κ with
  | 0 => tyJx00060
  | 1 => tyJx4a65c
  | 2 => tyX0
  | 3 => tyX1
  | 4 => tyX2
  | 5 => tyX3
  | 6 => tyX4
  | 7 => tyX5
  | _ => fun _ => .int
theorem jcl_in_0 : ∀ w ∈ u_ws RJx00060 TJx00060 6, w ∈ jwords := jin_p _ [536, 538, 540, 542, 544, 589] (by decide +kernel) (by decide +kernel)
theorem jcl_in_1 : ∀ w ∈ u_ws RJx4a65c TJx4a65c 3, w ∈ jwords := jin_p _ [100, 96, 98] (by decide +kernel) (by decide +kernel)
theorem jcl_in_2 : ∀ w ∈ u_ws RX0 TX0 10, w ∈ jwords := jin_p _ [234, 236, 238, 240, 242, 244, 246, 248, 250, 252] (by decide +kernel) (by decide +kernel)
theorem jcl_in_3 : ∀ w ∈ u_ws RX1 TX1 2, w ∈ jwords := jin_p _ [114, 116] (by decide +kernel) (by decide +kernel)
theorem jcl_in_4 : ∀ w ∈ u_ws RX2 TX2 1, w ∈ jwords := jin_p _ [434] (by decide +kernel) (by decide +kernel)
theorem jcl_in_5 : ∀ w ∈ u_ws RX3 TX3 5, w ∈ jwords := jin_p _ [370, 372, 374, 376, 378] (by decide +kernel) (by decide +kernel)
theorem jcl_in_6 : ∀ w ∈ u_ws RX4 TX4 16, w ∈ jwords := jin_p _ [145, 147, 149, 151, 153, 155, 157, 159, 161, 163, 165, 167, 169, 171, 173, 175] (by decide +kernel) (by decide +kernel)
theorem jcl_in_7 : ∀ w ∈ u_ws RX5 TX5 29, w ∈ jwords := jin_p _ [638, 640, 642, 644, 646, 648, 650, 652, 654, 656, 658, 660, 662, 664, 666, 668, 670, 672, 674, 676, 678, 680, 682, 684, 686, 688, 690, 692, 694] (by decide +kernel) (by decide +kernel)
theorem jcl_in : ∀ (κ : Nat) (q : vw_C), vwCl[κ]? = some q → ∀ w ∈ u_ws q.1 q.2.1 q.2.2, w ∈ jwords := by
  intro κ q h
  have hl : κ < 8 := (List.getElem?_eq_some_iff.mp h).1
  match κ, hl, h with
  | 0, _, h => cases h; exact jcl_in_0
  | 1, _, h => cases h; exact jcl_in_1
  | 2, _, h => cases h; exact jcl_in_2
  | 3, _, h => cases h; exact jcl_in_3
  | 4, _, h => cases h; exact jcl_in_4
  | 5, _, h => cases h; exact jcl_in_5
  | 6, _, h => cases h; exact jcl_in_6
  | 7, _, h => cases h; exact jcl_in_7
theorem jcl_ty : ∀ (κ : Nat) (q : vw_C), vwCl[κ]? = some q → ∀ k, k < q.2.2 → parseFieldDescriptor (q.2.1 k).2.2.1 = some (jty κ k) := by
  intro κ q h
  have hl : κ < 8 := (List.getElem?_eq_some_iff.mp h).1
  match κ, hl, h with
  | 0, _, h => cases h; exact tyJx00060_ok
  | 1, _, h => cases h; exact tyJx4a65c_ok
  | 2, _, h => cases h; exact tyX0_ok
  | 3, _, h => cases h; exact tyX1_ok
  | 4, _, h => cases h; exact tyX2_ok
  | 5, _, h => cases h; exact tyX3_ok
  | 6, _, h => cases h; exact tyX4_ok
  | 7, _, h => cases h; exact tyX5_ok
theorem jcl_nm : ∀ (κ : Nat) (q : vw_C), vwCl[κ]? = some q → ∀ a, a < q.2.2 → ∀ b, b < q.2.2 → a ≠ b → (q.2.1 a).2.1 ≠ (q.2.1 b).2.1 := by
  intro κ q h
  have hl : κ < 8 := (List.getElem?_eq_some_iff.mp h).1
  match κ, hl, h with
  | 0, _, h => cases h; exact nmJx00060
  | 1, _, h => cases h; exact nmJx4a65c
  | 2, _, h => cases h; exact nmX0
  | 3, _, h => cases h; exact nmX1
  | 4, _, h => cases h; exact nmX2
  | 5, _, h => cases h; exact nmX3
  | 6, _, h => cases h; exact nmX4
  | 7, _, h => cases h; exact nmX5
def jktT : List (Nat × FieldType) := [(53, .object "java/lang/Object"), (60, .int), (61, .int), (62, .int), (63, .int), (64, .int), (65, .int), (66, .int), (67, .int), (68, .int), (69, .int), (70, .boolean), (71, .boolean), (72, .boolean), (73, .boolean), (74, .int), (75, .int), (76, .int), (77, .long), (78, .int), (79, .long), (94, .int), (95, .object "java/lang/Object")]
def jkt (κ : Nat) : Option FieldType := (jktT.find? (fun x => x.1 == κ)).map (·.2)
theorem jkt_mem {κ : Nat} {ty : FieldType} (h : jkt κ = some ty) : (κ, ty) ∈ jktT := by
  unfold jkt at h
  obtain ⟨⟨κ', ty'⟩, h1, h2⟩ := Option.map_eq_some_iff.mp h
  have h3 := List.find?_some h1
  simp only [beq_iff_eq] at h3
  dsimp only at h2 h3
  subst h2 h3
  exact List.mem_of_find?_eq_some h1
theorem jktT_50 : ∀ x ∈ jktT, 50 ≤ x.1 := by decide +kernel
theorem jkt_50 {κ : Nat} {ty : FieldType} (h : jkt κ = some ty) : 50 ≤ κ := jktT_50 _ (jkt_mem h)
def jkr (κ : Nat) : Bool := κ == 53 || κ == 95
theorem jkr_c {κ : Nat} (h : jkr κ = true) : κ = 53 ∨ κ = 95 := by
  unfold jkr at h
  simp only [Bool.or_eq_true, beq_iff_eq] at h
  exact h
theorem jkr_50 {κ : Nat} (h : jkr κ = true) : 50 ≤ κ := by
  have := jkr_c h
  omega
theorem jkr_ok {κ : Nat} (h : jkr κ = true) : jkt κ = some (.object "java/lang/Object") := by
  rcases jkr_c h with h | h <;> subst h <;> rfl
def jlk {α : Type} (t : List ((Nat × Nat) × α)) (o i : Nat) : Option α := (t.find? (fun x => x.1.1 == o && x.1.2 == i)).map (·.2)
theorem jlk_mem {α : Type} {t : List ((Nat × Nat) × α)} {o i : Nat} {a : α} (h : jlk t o i = some a) : ((o, i), a) ∈ t := by
  unfold jlk at h
  obtain ⟨⟨⟨o', i'⟩, a'⟩, h1, h2⟩ := Option.map_eq_some_iff.mp h
  have h3 := List.find?_some h1
  simp only [Bool.and_eq_true, beq_iff_eq] at h3
  obtain ⟨h4, h5⟩ := h3
  dsimp only at h2 h4 h5
  subst h2 h4 h5
  exact List.mem_of_find?_eq_some h1
def jLk (own : String) (idx : Nat) (ow n d : String) : Prop := ∃ ref : String, (Cond.fieldLink own idx ref n d ∈ jwords ∨ ∃ host : String, Cond.fieldLinkNest own idx ref n d host ∈ jwords) ∧ (ref = ow ∨ Cond.sameField ref ow n d ∈ jwords)
def jflT : List ((Nat × Nat) × (Nat × Nat)) := [((10, 9), (1, 1)), ((10, 48), (1, 2)), ((9, 7), (1, 0)), ((10, 63), (1, 0)), ((1, 10), (3, 0)), ((1, 16), (3, 1)), ((4, 136), (3, 1)), ((4, 63), (6, 0)), ((4, 66), (6, 1)), ((4, 69), (6, 2)), ((4, 10), (6, 3)), ((4, 16), (6, 4)), ((4, 19), (6, 5)), ((4, 23), (6, 6)), ((4, 27), (6, 7)), ((4, 33), (6, 8)), ((4, 37), (6, 9)), ((4, 41), (6, 10)), ((4, 44), (6, 11)), ((4, 47), (6, 12)), ((4, 50), (6, 13)), ((4, 53), (6, 14)), ((4, 56), (6, 15)), ((0, 35), (2, 0)), ((4, 119), (2, 0)), ((0, 38), (2, 1)), ((4, 108), (2, 1)), ((0, 41), (2, 2)), ((4, 111), (2, 2)), ((0, 9), (2, 3)), ((4, 216), (2, 3)), ((0, 15), (2, 4)), ((4, 213), (2, 4)), ((0, 19), (2, 5)), ((4, 97), (2, 5)), ((0, 22), (2, 6)), ((4, 254), (2, 6)), ((0, 26), (2, 7)), ((4, 191), (2, 7)), ((0, 29), (2, 8)), ((4, 194), (2, 8)), ((0, 32), (2, 9)), ((4, 241), (2, 9)), ((3, 13), (5, 0)), ((4, 205), (5, 0)), ((3, 17), (5, 1)), ((4, 208), (5, 1)), ((3, 20), (5, 2)), ((4, 269), (5, 2)), ((3, 23), (5, 3)), ((4, 272), (5, 3)), ((3, 7), (5, 4)), ((4, 132), (5, 4)), ((2, 9), (4, 0)), ((1, 35), (4, 0)), ((5, 72), (7, 0)), ((5, 62), (7, 1)), ((5, 66), (7, 2)), ((5, 69), (7, 3)), ((5, 82), (7, 4)), ((5, 75), (7, 5)), ((5, 100), (7, 6)), ((5, 7), (7, 7)), ((5, 13), (7, 8)), ((5, 16), (7, 9)), ((5, 19), (7, 10)), ((5, 22), (7, 11)), ((5, 25), (7, 12)), ((5, 28), (7, 13)), ((5, 32), (7, 14)), ((5, 35), (7, 15)), ((5, 38), (7, 16)), ((5, 41), (7, 17)), ((5, 44), (7, 18)), ((5, 47), (7, 19)), ((5, 50), (7, 20)), ((5, 85), (7, 21)), ((5, 153), (7, 22)), ((5, 156), (7, 23)), ((5, 110), (7, 24)), ((5, 113), (7, 25)), ((5, 130), (7, 26)), ((5, 55), (7, 27)), ((5, 107), (7, 28))]
def jflP (x : (Nat × Nat) × (Nat × Nat)) : Prop := ∃ C T N, vwCl[x.2.1]? = some (C, T, N) ∧ x.2.1 < 50 ∧ x.2.2 < N ∧ jLk (jcn x.1.1) x.1.2 (T x.2.2).1 (T x.2.2).2.1 (T x.2.2).2.2.1
theorem jflT_0 : jflP ((10, 9), (1, 1)) := ⟨_, _, _, rfl, by decide, by decide, "java/util/ArrayList", Or.inl (jmw 91 (by decide +kernel) (by decide +kernel)), Or.inl rfl⟩
theorem jflT_1 : jflP ((10, 48), (1, 2)) := ⟨_, _, _, rfl, by decide, by decide, "java/util/ArrayList", Or.inl (jmw 92 (by decide +kernel) (by decide +kernel)), Or.inl rfl⟩
theorem jflT_2 : jflP ((9, 7), (1, 0)) := ⟨_, _, _, rfl, by decide, by decide, "java/util/AbstractList", Or.inl (jmw 93 (by decide +kernel) (by decide +kernel)), Or.inl rfl⟩
theorem jflT_3 : jflP ((10, 63), (1, 0)) := ⟨_, _, _, rfl, by decide, by decide, "java/util/ArrayList", Or.inl (jmw 94 (by decide +kernel) (by decide +kernel)), Or.inr (jmw 95 (by decide +kernel) (by decide +kernel))⟩
theorem jflT_4 : jflP ((1, 10), (3, 0)) := ⟨_, _, _, rfl, by decide, by decide, "ReportWriter$Printed", Or.inl (jmw 111 (by decide +kernel) (by decide +kernel)), Or.inl rfl⟩
theorem jflT_5 : jflP ((1, 16), (3, 1)) := ⟨_, _, _, rfl, by decide, by decide, "ReportWriter$Printed", Or.inl (jmw 112 (by decide +kernel) (by decide +kernel)), Or.inl rfl⟩
theorem jflT_6 : jflP ((4, 136), (3, 1)) := ⟨_, _, _, rfl, by decide, by decide, "ReportWriter$Printed", Or.inl (jmw 113 (by decide +kernel) (by decide +kernel)), Or.inl rfl⟩
theorem jflT_7 : jflP ((4, 63), (6, 0)) := ⟨_, _, _, rfl, by decide, by decide, "ReportWriter", Or.inl (jmw 129 (by decide +kernel) (by decide +kernel)), Or.inl rfl⟩
theorem jflT_8 : jflP ((4, 66), (6, 1)) := ⟨_, _, _, rfl, by decide, by decide, "ReportWriter", Or.inl (jmw 130 (by decide +kernel) (by decide +kernel)), Or.inl rfl⟩
theorem jflT_9 : jflP ((4, 69), (6, 2)) := ⟨_, _, _, rfl, by decide, by decide, "ReportWriter", Or.inl (jmw 131 (by decide +kernel) (by decide +kernel)), Or.inl rfl⟩
theorem jflT_10 : jflP ((4, 10), (6, 3)) := ⟨_, _, _, rfl, by decide, by decide, "ReportWriter", Or.inl (jmw 132 (by decide +kernel) (by decide +kernel)), Or.inl rfl⟩
theorem jflT_11 : jflP ((4, 16), (6, 4)) := ⟨_, _, _, rfl, by decide, by decide, "ReportWriter", Or.inl (jmw 133 (by decide +kernel) (by decide +kernel)), Or.inl rfl⟩
theorem jflT_12 : jflP ((4, 19), (6, 5)) := ⟨_, _, _, rfl, by decide, by decide, "ReportWriter", Or.inl (jmw 134 (by decide +kernel) (by decide +kernel)), Or.inl rfl⟩
theorem jflT_13 : jflP ((4, 23), (6, 6)) := ⟨_, _, _, rfl, by decide, by decide, "ReportWriter", Or.inl (jmw 135 (by decide +kernel) (by decide +kernel)), Or.inl rfl⟩
theorem jflT_14 : jflP ((4, 27), (6, 7)) := ⟨_, _, _, rfl, by decide, by decide, "ReportWriter", Or.inl (jmw 136 (by decide +kernel) (by decide +kernel)), Or.inl rfl⟩
theorem jflT_15 : jflP ((4, 33), (6, 8)) := ⟨_, _, _, rfl, by decide, by decide, "ReportWriter", Or.inl (jmw 137 (by decide +kernel) (by decide +kernel)), Or.inl rfl⟩
theorem jflT_16 : jflP ((4, 37), (6, 9)) := ⟨_, _, _, rfl, by decide, by decide, "ReportWriter", Or.inl (jmw 138 (by decide +kernel) (by decide +kernel)), Or.inl rfl⟩
theorem jflT_17 : jflP ((4, 41), (6, 10)) := ⟨_, _, _, rfl, by decide, by decide, "ReportWriter", Or.inl (jmw 139 (by decide +kernel) (by decide +kernel)), Or.inl rfl⟩
theorem jflT_18 : jflP ((4, 44), (6, 11)) := ⟨_, _, _, rfl, by decide, by decide, "ReportWriter", Or.inl (jmw 140 (by decide +kernel) (by decide +kernel)), Or.inl rfl⟩
theorem jflT_19 : jflP ((4, 47), (6, 12)) := ⟨_, _, _, rfl, by decide, by decide, "ReportWriter", Or.inl (jmw 141 (by decide +kernel) (by decide +kernel)), Or.inl rfl⟩
theorem jflT_20 : jflP ((4, 50), (6, 13)) := ⟨_, _, _, rfl, by decide, by decide, "ReportWriter", Or.inl (jmw 142 (by decide +kernel) (by decide +kernel)), Or.inl rfl⟩
theorem jflT_21 : jflP ((4, 53), (6, 14)) := ⟨_, _, _, rfl, by decide, by decide, "ReportWriter", Or.inl (jmw 143 (by decide +kernel) (by decide +kernel)), Or.inl rfl⟩
theorem jflT_22 : jflP ((4, 56), (6, 15)) := ⟨_, _, _, rfl, by decide, by decide, "ReportWriter", Or.inl (jmw 144 (by decide +kernel) (by decide +kernel)), Or.inl rfl⟩
theorem jflT_23 : jflP ((0, 35), (2, 0)) := ⟨_, _, _, rfl, by decide, by decide, "ReportWriter$Group", Or.inl (jmw 214 (by decide +kernel) (by decide +kernel)), Or.inl rfl⟩
theorem jflT_24 : jflP ((4, 119), (2, 0)) := ⟨_, _, _, rfl, by decide, by decide, "ReportWriter$Group", Or.inl (jmw 215 (by decide +kernel) (by decide +kernel)), Or.inl rfl⟩
theorem jflT_25 : jflP ((0, 38), (2, 1)) := ⟨_, _, _, rfl, by decide, by decide, "ReportWriter$Group", Or.inl (jmw 216 (by decide +kernel) (by decide +kernel)), Or.inl rfl⟩
theorem jflT_26 : jflP ((4, 108), (2, 1)) := ⟨_, _, _, rfl, by decide, by decide, "ReportWriter$Group", Or.inl (jmw 217 (by decide +kernel) (by decide +kernel)), Or.inl rfl⟩
theorem jflT_27 : jflP ((0, 41), (2, 2)) := ⟨_, _, _, rfl, by decide, by decide, "ReportWriter$Group", Or.inl (jmw 218 (by decide +kernel) (by decide +kernel)), Or.inl rfl⟩
theorem jflT_28 : jflP ((4, 111), (2, 2)) := ⟨_, _, _, rfl, by decide, by decide, "ReportWriter$Group", Or.inl (jmw 219 (by decide +kernel) (by decide +kernel)), Or.inl rfl⟩
theorem jflT_29 : jflP ((0, 9), (2, 3)) := ⟨_, _, _, rfl, by decide, by decide, "ReportWriter$Group", Or.inl (jmw 220 (by decide +kernel) (by decide +kernel)), Or.inl rfl⟩
theorem jflT_30 : jflP ((4, 216), (2, 3)) := ⟨_, _, _, rfl, by decide, by decide, "ReportWriter$Group", Or.inl (jmw 221 (by decide +kernel) (by decide +kernel)), Or.inl rfl⟩
theorem jflT_31 : jflP ((0, 15), (2, 4)) := ⟨_, _, _, rfl, by decide, by decide, "ReportWriter$Group", Or.inl (jmw 222 (by decide +kernel) (by decide +kernel)), Or.inl rfl⟩
theorem jflT_32 : jflP ((4, 213), (2, 4)) := ⟨_, _, _, rfl, by decide, by decide, "ReportWriter$Group", Or.inl (jmw 223 (by decide +kernel) (by decide +kernel)), Or.inl rfl⟩
theorem jflT_33 : jflP ((0, 19), (2, 5)) := ⟨_, _, _, rfl, by decide, by decide, "ReportWriter$Group", Or.inl (jmw 224 (by decide +kernel) (by decide +kernel)), Or.inl rfl⟩
theorem jflT_34 : jflP ((4, 97), (2, 5)) := ⟨_, _, _, rfl, by decide, by decide, "ReportWriter$Group", Or.inl (jmw 225 (by decide +kernel) (by decide +kernel)), Or.inl rfl⟩
theorem jflT_35 : jflP ((0, 22), (2, 6)) := ⟨_, _, _, rfl, by decide, by decide, "ReportWriter$Group", Or.inl (jmw 226 (by decide +kernel) (by decide +kernel)), Or.inl rfl⟩
theorem jflT_36 : jflP ((4, 254), (2, 6)) := ⟨_, _, _, rfl, by decide, by decide, "ReportWriter$Group", Or.inl (jmw 227 (by decide +kernel) (by decide +kernel)), Or.inl rfl⟩
theorem jflT_37 : jflP ((0, 26), (2, 7)) := ⟨_, _, _, rfl, by decide, by decide, "ReportWriter$Group", Or.inl (jmw 228 (by decide +kernel) (by decide +kernel)), Or.inl rfl⟩
theorem jflT_38 : jflP ((4, 191), (2, 7)) := ⟨_, _, _, rfl, by decide, by decide, "ReportWriter$Group", Or.inl (jmw 229 (by decide +kernel) (by decide +kernel)), Or.inl rfl⟩
theorem jflT_39 : jflP ((0, 29), (2, 8)) := ⟨_, _, _, rfl, by decide, by decide, "ReportWriter$Group", Or.inl (jmw 230 (by decide +kernel) (by decide +kernel)), Or.inl rfl⟩
theorem jflT_40 : jflP ((4, 194), (2, 8)) := ⟨_, _, _, rfl, by decide, by decide, "ReportWriter$Group", Or.inl (jmw 231 (by decide +kernel) (by decide +kernel)), Or.inl rfl⟩
theorem jflT_41 : jflP ((0, 32), (2, 9)) := ⟨_, _, _, rfl, by decide, by decide, "ReportWriter$Group", Or.inl (jmw 232 (by decide +kernel) (by decide +kernel)), Or.inl rfl⟩
theorem jflT_42 : jflP ((4, 241), (2, 9)) := ⟨_, _, _, rfl, by decide, by decide, "ReportWriter$Group", Or.inl (jmw 233 (by decide +kernel) (by decide +kernel)), Or.inl rfl⟩
theorem jflT_43 : jflP ((3, 13), (5, 0)) := ⟨_, _, _, rfl, by decide, by decide, "ReportWriter$Sum", Or.inl (jmw 360 (by decide +kernel) (by decide +kernel)), Or.inl rfl⟩
theorem jflT_44 : jflP ((4, 205), (5, 0)) := ⟨_, _, _, rfl, by decide, by decide, "ReportWriter$Sum", Or.inl (jmw 361 (by decide +kernel) (by decide +kernel)), Or.inl rfl⟩
theorem jflT_45 : jflP ((3, 17), (5, 1)) := ⟨_, _, _, rfl, by decide, by decide, "ReportWriter$Sum", Or.inl (jmw 362 (by decide +kernel) (by decide +kernel)), Or.inl rfl⟩
theorem jflT_46 : jflP ((4, 208), (5, 1)) := ⟨_, _, _, rfl, by decide, by decide, "ReportWriter$Sum", Or.inl (jmw 363 (by decide +kernel) (by decide +kernel)), Or.inl rfl⟩
theorem jflT_47 : jflP ((3, 20), (5, 2)) := ⟨_, _, _, rfl, by decide, by decide, "ReportWriter$Sum", Or.inl (jmw 364 (by decide +kernel) (by decide +kernel)), Or.inl rfl⟩
theorem jflT_48 : jflP ((4, 269), (5, 2)) := ⟨_, _, _, rfl, by decide, by decide, "ReportWriter$Sum", Or.inl (jmw 365 (by decide +kernel) (by decide +kernel)), Or.inl rfl⟩
theorem jflT_49 : jflP ((3, 23), (5, 3)) := ⟨_, _, _, rfl, by decide, by decide, "ReportWriter$Sum", Or.inl (jmw 366 (by decide +kernel) (by decide +kernel)), Or.inl rfl⟩
theorem jflT_50 : jflP ((4, 272), (5, 3)) := ⟨_, _, _, rfl, by decide, by decide, "ReportWriter$Sum", Or.inl (jmw 367 (by decide +kernel) (by decide +kernel)), Or.inl rfl⟩
theorem jflT_51 : jflP ((3, 7), (5, 4)) := ⟨_, _, _, rfl, by decide, by decide, "ReportWriter$Sum", Or.inl (jmw 368 (by decide +kernel) (by decide +kernel)), Or.inl rfl⟩
theorem jflT_52 : jflP ((4, 132), (5, 4)) := ⟨_, _, _, rfl, by decide, by decide, "ReportWriter$Sum", Or.inl (jmw 369 (by decide +kernel) (by decide +kernel)), Or.inl rfl⟩
theorem jflT_53 : jflP ((2, 9), (4, 0)) := ⟨_, _, _, rfl, by decide, by decide, "ReportWriter$Sheet", Or.inl (jmw 432 (by decide +kernel) (by decide +kernel)), Or.inl rfl⟩
theorem jflT_54 : jflP ((1, 35), (4, 0)) := ⟨_, _, _, rfl, by decide, by decide, "ReportWriter$Sheet", Or.inl (jmw 433 (by decide +kernel) (by decide +kernel)), Or.inl rfl⟩
theorem jflT_55 : jflP ((5, 72), (7, 0)) := ⟨_, _, _, rfl, by decide, by decide, "ReportWriterModel", Or.inl (jmw 609 (by decide +kernel) (by decide +kernel)), Or.inl rfl⟩
theorem jflT_56 : jflP ((5, 62), (7, 1)) := ⟨_, _, _, rfl, by decide, by decide, "ReportWriterModel", Or.inl (jmw 610 (by decide +kernel) (by decide +kernel)), Or.inl rfl⟩
theorem jflT_57 : jflP ((5, 66), (7, 2)) := ⟨_, _, _, rfl, by decide, by decide, "ReportWriterModel", Or.inl (jmw 611 (by decide +kernel) (by decide +kernel)), Or.inl rfl⟩
theorem jflT_58 : jflP ((5, 69), (7, 3)) := ⟨_, _, _, rfl, by decide, by decide, "ReportWriterModel", Or.inl (jmw 612 (by decide +kernel) (by decide +kernel)), Or.inl rfl⟩
theorem jflT_59 : jflP ((5, 82), (7, 4)) := ⟨_, _, _, rfl, by decide, by decide, "ReportWriterModel", Or.inl (jmw 613 (by decide +kernel) (by decide +kernel)), Or.inl rfl⟩
theorem jflT_60 : jflP ((5, 75), (7, 5)) := ⟨_, _, _, rfl, by decide, by decide, "ReportWriterModel", Or.inl (jmw 614 (by decide +kernel) (by decide +kernel)), Or.inl rfl⟩
theorem jflT_61 : jflP ((5, 100), (7, 6)) := ⟨_, _, _, rfl, by decide, by decide, "ReportWriterModel", Or.inl (jmw 615 (by decide +kernel) (by decide +kernel)), Or.inl rfl⟩
theorem jflT_62 : jflP ((5, 7), (7, 7)) := ⟨_, _, _, rfl, by decide, by decide, "ReportWriterModel", Or.inl (jmw 616 (by decide +kernel) (by decide +kernel)), Or.inl rfl⟩
theorem jflT_63 : jflP ((5, 13), (7, 8)) := ⟨_, _, _, rfl, by decide, by decide, "ReportWriterModel", Or.inl (jmw 617 (by decide +kernel) (by decide +kernel)), Or.inl rfl⟩
theorem jflT_64 : jflP ((5, 16), (7, 9)) := ⟨_, _, _, rfl, by decide, by decide, "ReportWriterModel", Or.inl (jmw 618 (by decide +kernel) (by decide +kernel)), Or.inl rfl⟩
theorem jflT_65 : jflP ((5, 19), (7, 10)) := ⟨_, _, _, rfl, by decide, by decide, "ReportWriterModel", Or.inl (jmw 619 (by decide +kernel) (by decide +kernel)), Or.inl rfl⟩
theorem jflT_66 : jflP ((5, 22), (7, 11)) := ⟨_, _, _, rfl, by decide, by decide, "ReportWriterModel", Or.inl (jmw 620 (by decide +kernel) (by decide +kernel)), Or.inl rfl⟩
theorem jflT_67 : jflP ((5, 25), (7, 12)) := ⟨_, _, _, rfl, by decide, by decide, "ReportWriterModel", Or.inl (jmw 621 (by decide +kernel) (by decide +kernel)), Or.inl rfl⟩
theorem jflT_68 : jflP ((5, 28), (7, 13)) := ⟨_, _, _, rfl, by decide, by decide, "ReportWriterModel", Or.inl (jmw 622 (by decide +kernel) (by decide +kernel)), Or.inl rfl⟩
theorem jflT_69 : jflP ((5, 32), (7, 14)) := ⟨_, _, _, rfl, by decide, by decide, "ReportWriterModel", Or.inl (jmw 623 (by decide +kernel) (by decide +kernel)), Or.inl rfl⟩
theorem jflT_70 : jflP ((5, 35), (7, 15)) := ⟨_, _, _, rfl, by decide, by decide, "ReportWriterModel", Or.inl (jmw 624 (by decide +kernel) (by decide +kernel)), Or.inl rfl⟩
theorem jflT_71 : jflP ((5, 38), (7, 16)) := ⟨_, _, _, rfl, by decide, by decide, "ReportWriterModel", Or.inl (jmw 625 (by decide +kernel) (by decide +kernel)), Or.inl rfl⟩
theorem jflT_72 : jflP ((5, 41), (7, 17)) := ⟨_, _, _, rfl, by decide, by decide, "ReportWriterModel", Or.inl (jmw 626 (by decide +kernel) (by decide +kernel)), Or.inl rfl⟩
theorem jflT_73 : jflP ((5, 44), (7, 18)) := ⟨_, _, _, rfl, by decide, by decide, "ReportWriterModel", Or.inl (jmw 627 (by decide +kernel) (by decide +kernel)), Or.inl rfl⟩
theorem jflT_74 : jflP ((5, 47), (7, 19)) := ⟨_, _, _, rfl, by decide, by decide, "ReportWriterModel", Or.inl (jmw 628 (by decide +kernel) (by decide +kernel)), Or.inl rfl⟩
theorem jflT_75 : jflP ((5, 50), (7, 20)) := ⟨_, _, _, rfl, by decide, by decide, "ReportWriterModel", Or.inl (jmw 629 (by decide +kernel) (by decide +kernel)), Or.inl rfl⟩
theorem jflT_76 : jflP ((5, 85), (7, 21)) := ⟨_, _, _, rfl, by decide, by decide, "ReportWriterModel", Or.inl (jmw 630 (by decide +kernel) (by decide +kernel)), Or.inl rfl⟩
theorem jflT_77 : jflP ((5, 153), (7, 22)) := ⟨_, _, _, rfl, by decide, by decide, "ReportWriterModel", Or.inl (jmw 631 (by decide +kernel) (by decide +kernel)), Or.inl rfl⟩
theorem jflT_78 : jflP ((5, 156), (7, 23)) := ⟨_, _, _, rfl, by decide, by decide, "ReportWriterModel", Or.inl (jmw 632 (by decide +kernel) (by decide +kernel)), Or.inl rfl⟩
theorem jflT_79 : jflP ((5, 110), (7, 24)) := ⟨_, _, _, rfl, by decide, by decide, "ReportWriterModel", Or.inl (jmw 633 (by decide +kernel) (by decide +kernel)), Or.inl rfl⟩
theorem jflT_80 : jflP ((5, 113), (7, 25)) := ⟨_, _, _, rfl, by decide, by decide, "ReportWriterModel", Or.inl (jmw 634 (by decide +kernel) (by decide +kernel)), Or.inl rfl⟩
theorem jflT_81 : jflP ((5, 130), (7, 26)) := ⟨_, _, _, rfl, by decide, by decide, "ReportWriterModel", Or.inl (jmw 635 (by decide +kernel) (by decide +kernel)), Or.inl rfl⟩
theorem jflT_82 : jflP ((5, 55), (7, 27)) := ⟨_, _, _, rfl, by decide, by decide, "ReportWriterModel", Or.inl (jmw 636 (by decide +kernel) (by decide +kernel)), Or.inl rfl⟩
theorem jflT_83 : jflP ((5, 107), (7, 28)) := ⟨_, _, _, rfl, by decide, by decide, "ReportWriterModel", Or.inl (jmw 637 (by decide +kernel) (by decide +kernel)), Or.inl rfl⟩
theorem jflT_ok : ∀ x ∈ jflT, jflP x := List.forall_mem_cons.mpr ⟨jflT_0, List.forall_mem_cons.mpr ⟨jflT_1, List.forall_mem_cons.mpr ⟨jflT_2, List.forall_mem_cons.mpr ⟨jflT_3, List.forall_mem_cons.mpr ⟨jflT_4, List.forall_mem_cons.mpr ⟨jflT_5, List.forall_mem_cons.mpr ⟨jflT_6, List.forall_mem_cons.mpr ⟨jflT_7, List.forall_mem_cons.mpr ⟨jflT_8, List.forall_mem_cons.mpr ⟨jflT_9, List.forall_mem_cons.mpr ⟨jflT_10, List.forall_mem_cons.mpr ⟨jflT_11, List.forall_mem_cons.mpr ⟨jflT_12, List.forall_mem_cons.mpr ⟨jflT_13, List.forall_mem_cons.mpr ⟨jflT_14, List.forall_mem_cons.mpr ⟨jflT_15, List.forall_mem_cons.mpr ⟨jflT_16, List.forall_mem_cons.mpr ⟨jflT_17, List.forall_mem_cons.mpr ⟨jflT_18, List.forall_mem_cons.mpr ⟨jflT_19, List.forall_mem_cons.mpr ⟨jflT_20, List.forall_mem_cons.mpr ⟨jflT_21, List.forall_mem_cons.mpr ⟨jflT_22, List.forall_mem_cons.mpr ⟨jflT_23, List.forall_mem_cons.mpr ⟨jflT_24, List.forall_mem_cons.mpr ⟨jflT_25, List.forall_mem_cons.mpr ⟨jflT_26, List.forall_mem_cons.mpr ⟨jflT_27, List.forall_mem_cons.mpr ⟨jflT_28, List.forall_mem_cons.mpr ⟨jflT_29, List.forall_mem_cons.mpr ⟨jflT_30, List.forall_mem_cons.mpr ⟨jflT_31, List.forall_mem_cons.mpr ⟨jflT_32, List.forall_mem_cons.mpr ⟨jflT_33, List.forall_mem_cons.mpr ⟨jflT_34, List.forall_mem_cons.mpr ⟨jflT_35, List.forall_mem_cons.mpr ⟨jflT_36, List.forall_mem_cons.mpr ⟨jflT_37, List.forall_mem_cons.mpr ⟨jflT_38, List.forall_mem_cons.mpr ⟨jflT_39, List.forall_mem_cons.mpr ⟨jflT_40, List.forall_mem_cons.mpr ⟨jflT_41, List.forall_mem_cons.mpr ⟨jflT_42, List.forall_mem_cons.mpr ⟨jflT_43, List.forall_mem_cons.mpr ⟨jflT_44, List.forall_mem_cons.mpr ⟨jflT_45, List.forall_mem_cons.mpr ⟨jflT_46, List.forall_mem_cons.mpr ⟨jflT_47, List.forall_mem_cons.mpr ⟨jflT_48, List.forall_mem_cons.mpr ⟨jflT_49, List.forall_mem_cons.mpr ⟨jflT_50, List.forall_mem_cons.mpr ⟨jflT_51, List.forall_mem_cons.mpr ⟨jflT_52, List.forall_mem_cons.mpr ⟨jflT_53, List.forall_mem_cons.mpr ⟨jflT_54, List.forall_mem_cons.mpr ⟨jflT_55, List.forall_mem_cons.mpr ⟨jflT_56, List.forall_mem_cons.mpr ⟨jflT_57, List.forall_mem_cons.mpr ⟨jflT_58, List.forall_mem_cons.mpr ⟨jflT_59, List.forall_mem_cons.mpr ⟨jflT_60, List.forall_mem_cons.mpr ⟨jflT_61, List.forall_mem_cons.mpr ⟨jflT_62, List.forall_mem_cons.mpr ⟨jflT_63, List.forall_mem_cons.mpr ⟨jflT_64, List.forall_mem_cons.mpr ⟨jflT_65, List.forall_mem_cons.mpr ⟨jflT_66, List.forall_mem_cons.mpr ⟨jflT_67, List.forall_mem_cons.mpr ⟨jflT_68, List.forall_mem_cons.mpr ⟨jflT_69, List.forall_mem_cons.mpr ⟨jflT_70, List.forall_mem_cons.mpr ⟨jflT_71, List.forall_mem_cons.mpr ⟨jflT_72, List.forall_mem_cons.mpr ⟨jflT_73, List.forall_mem_cons.mpr ⟨jflT_74, List.forall_mem_cons.mpr ⟨jflT_75, List.forall_mem_cons.mpr ⟨jflT_76, List.forall_mem_cons.mpr ⟨jflT_77, List.forall_mem_cons.mpr ⟨jflT_78, List.forall_mem_cons.mpr ⟨jflT_79, List.forall_mem_cons.mpr ⟨jflT_80, List.forall_mem_cons.mpr ⟨jflT_81, List.forall_mem_cons.mpr ⟨jflT_82, List.forall_mem_cons.mpr ⟨jflT_83, fun _ h => absurd h List.not_mem_nil⟩⟩⟩⟩⟩⟩⟩⟩⟩⟩⟩⟩⟩⟩⟩⟩⟩⟩⟩⟩⟩⟩⟩⟩⟩⟩⟩⟩⟩⟩⟩⟩⟩⟩⟩⟩⟩⟩⟩⟩⟩⟩⟩⟩⟩⟩⟩⟩⟩⟩⟩⟩⟩⟩⟩⟩⟩⟩⟩⟩⟩⟩⟩⟩⟩⟩⟩⟩⟩⟩⟩⟩⟩⟩⟩⟩⟩⟩⟩⟩⟩⟩⟩⟩
theorem jfl_own {μ idx : Nat} {a : (Nat × Nat)} (h : jlk jflT (jow μ) idx = some a) : jflP ((jow μ, idx), a) := jflT_ok _ (jlk_mem h)
def jfl (o i : Nat) : Option (Nat × Nat) := jlk jflT o i
theorem jow_of {μ idx : Nat} {α : Type} {t : List ((Nat × Nat) × α)} {a : α} (h : jlk t (jow μ) idx = some a) (ht : ∀ x ∈ t, x.1.1 ≠ 999) : (jy μ).cls = jcn (jow μ) := jow_cn (ht _ (jlk_mem h))
theorem jfl_ok {μ idx κ k : Nat} (h : jfl (jow μ) idx = some (κ, k)) : ∃ C T N, vwCl[κ]? = some (C, T, N) ∧ κ < 50 ∧ k < N ∧ jLk (jy μ).cls idx (T k).1 (T k).2.1 (T k).2.2.1 := by
  rw [jow_of h (by decide +kernel)]
  exact jfl_own h
def jpf (μ κ k : Nat) : Bool := match vwCl[κ]? with
  | some q => !(q.2.1 k).2.2.2 || ((jy μ).name == "<init>" && (q.2.1 k).1 == (jy μ).cls)
  | none => false
theorem jpf_ok {μ κ k : Nat} {C : String} {T : u_T} {N : Nat} (h : jpf μ κ k = true) (hc : vwCl[κ]? = some (C, T, N)) : (T k).2.2.2 = false ∨ ((jy μ).name = "<init>" ∧ (T k).1 = (jy μ).cls) := by
  unfold jpf at h
  rw [hc] at h
  simp only [Bool.or_eq_true, Bool.not_eq_true', Bool.and_eq_true, beq_iff_eq] at h
  exact h
def jst (k : Nat) : Option (String × String × String) := match k with
  | 0 => some ("java/util/ArrayList", "DEFAULTCAPACITY_EMPTY_ELEMENTDATA", "[Ljava/lang/Object;")
  | _ => none
def jmir (k : Nat) : Option String := match k with
  | 1 => some "[Ljava/lang/Object;"
  | _ => none
def jsgT : List ((Nat × Nat) × Nat) := [((10, 39), 0)]
def jsgP (x : (Nat × Nat) × Nat) : Prop := ∃ C n d, jst x.2 = some (C, n, d) ∧ jLk (jcn x.1.1) x.1.2 C n d
theorem jsgT_0 : jsgP ((10, 39), 0) := ⟨_, _, _, rfl, "java/util/ArrayList", Or.inl (jmw 89 (by decide +kernel) (by decide +kernel)), Or.inl rfl⟩
theorem jsgT_ok : ∀ x ∈ jsgT, jsgP x := List.forall_mem_cons.mpr ⟨jsgT_0, fun _ h => absurd h List.not_mem_nil⟩
theorem jsg_own {μ idx : Nat} {a : Nat} (h : jlk jsgT (jow μ) idx = some a) : jsgP ((jow μ, idx), a) := jsgT_ok _ (jlk_mem h)
def jsg (o i : Nat) : Option Nat := jlk jsgT o i
theorem jsg_ok {μ idx k : Nat} (h : jsg (jow μ) idx = some k) : ∃ C n d, jst k = some (C, n, d) ∧ jLk (jy μ).cls idx C n d := by
  rw [jow_of h (by decide +kernel)]
  exact jsg_own h
def jnwT : List ((Nat × Nat) × (Nat × Nat × Nat)) := [((4, 7), (1, 3, 3)), ((4, 30), (3, 2, 2)), ((4, 84), (2, 10, 10)), ((4, 117), (5, 5, 5)), ((4, 176), (0, 6, 6)), ((1, 7), (1, 3, 3)), ((1, 24), (4, 1, 1)), ((15, 8), (6, 16, 16)), ((15, 24), (7, 29, 29))]
def jnwP (x : (Nat × Nat) × (Nat × Nat × Nat)) : Prop := ∃ C T, vwCl[x.2.1]? = some (C, T, x.2.2.1) ∧ x.2.1 < 50 ∧ Cond.classLink (jcn x.1.1) x.1.2 C ∈ jwords ∧ Cond.instantiable C x.2.2.2 ∈ jwords ∧ Cond.initialized C ∈ jwords
theorem jnwT_0 : jnwP ((4, 7), (1, 3, 3)) := ⟨_, _, rfl, by decide, (jmw 77 (by decide +kernel) (by decide +kernel)), (jmw 78 (by decide +kernel) (by decide +kernel)), (jmw 52 (by decide +kernel) (by decide +kernel))⟩
theorem jnwT_1 : jnwP ((4, 30), (3, 2, 2)) := ⟨_, _, rfl, by decide, (jmw 103 (by decide +kernel) (by decide +kernel)), (jmw 104 (by decide +kernel) (by decide +kernel)), (jmw 53 (by decide +kernel) (by decide +kernel))⟩
theorem jnwT_2 : jnwP ((4, 84), (2, 10, 10)) := ⟨_, _, rfl, by decide, (jmw 208 (by decide +kernel) (by decide +kernel)), (jmw 209 (by decide +kernel) (by decide +kernel)), (jmw 58 (by decide +kernel) (by decide +kernel))⟩
theorem jnwT_3 : jnwP ((4, 117), (5, 5, 5)) := ⟨_, _, rfl, by decide, (jmw 354 (by decide +kernel) (by decide +kernel)), (jmw 355 (by decide +kernel) (by decide +kernel)), (jmw 62 (by decide +kernel) (by decide +kernel))⟩
theorem jnwT_4 : jnwP ((4, 176), (0, 6, 6)) := ⟨_, _, rfl, by decide, (jmw 523 (by decide +kernel) (by decide +kernel)), (jmw 524 (by decide +kernel) (by decide +kernel)), (jmw 68 (by decide +kernel) (by decide +kernel))⟩
theorem jnwT_5 : jnwP ((1, 7), (1, 3, 3)) := ⟨_, _, rfl, by decide, (jmw 109 (by decide +kernel) (by decide +kernel)), (jmw 78 (by decide +kernel) (by decide +kernel)), (jmw 52 (by decide +kernel) (by decide +kernel))⟩
theorem jnwT_6 : jnwP ((1, 24), (4, 1, 1)) := ⟨_, _, rfl, by decide, (jmw 426 (by decide +kernel) (by decide +kernel)), (jmw 427 (by decide +kernel) (by decide +kernel)), (jmw 63 (by decide +kernel) (by decide +kernel))⟩
theorem jnwT_7 : jnwP ((15, 8), (6, 16, 16)) := ⟨_, _, rfl, by decide, (jmw 69 (by decide +kernel) (by decide +kernel)), (jmw 70 (by decide +kernel) (by decide +kernel)), (jmw 49 (by decide +kernel) (by decide +kernel))⟩
theorem jnwT_8 : jnwP ((15, 24), (7, 29, 29)) := ⟨_, _, rfl, by decide, (jmw 599 (by decide +kernel) (by decide +kernel)), (jmw 600 (by decide +kernel) (by decide +kernel)), (jmw 55 (by decide +kernel) (by decide +kernel))⟩
theorem jnwT_ok : ∀ x ∈ jnwT, jnwP x := List.forall_mem_cons.mpr ⟨jnwT_0, List.forall_mem_cons.mpr ⟨jnwT_1, List.forall_mem_cons.mpr ⟨jnwT_2, List.forall_mem_cons.mpr ⟨jnwT_3, List.forall_mem_cons.mpr ⟨jnwT_4, List.forall_mem_cons.mpr ⟨jnwT_5, List.forall_mem_cons.mpr ⟨jnwT_6, List.forall_mem_cons.mpr ⟨jnwT_7, List.forall_mem_cons.mpr ⟨jnwT_8, fun _ h => absurd h List.not_mem_nil⟩⟩⟩⟩⟩⟩⟩⟩⟩
theorem jnw_own {μ idx : Nat} {a : (Nat × Nat × Nat)} (h : jlk jnwT (jow μ) idx = some a) : jnwP ((jow μ, idx), a) := jnwT_ok _ (jlk_mem h)
def jnw (o i : Nat) : Option (Nat × Nat × Nat) := jlk jnwT o i
theorem jnw_ok {μ idx κ N w : Nat} (h : jnw (jow μ) idx = some (κ, N, w)) : ∃ C T, vwCl[κ]? = some (C, T, N) ∧ κ < 50 ∧ Cond.classLink (jy μ).cls idx C ∈ jwords ∧ Cond.instantiable C w ∈ jwords ∧ Cond.initialized C ∈ jwords := by
  rw [jow_of h (by decide +kernel)]
  exact jnw_own h
theorem jac_int : Cond.arrayClass .int ∈ jwords := (jmw 119 (by decide +kernel) (by decide +kernel))
theorem jac_long : Cond.arrayClass .long ∈ jwords := (jmw 698 (by decide +kernel) (by decide +kernel))
theorem jac_boolean : Cond.arrayClass .boolean ∈ jwords := (jmw 697 (by decide +kernel) (by decide +kernel))
def jnaT : List ((Nat × Nat) × Nat) := [((11, 34), 60), ((11, 42), 61), ((0, 22), 62), ((9, 8), 63), ((52, 7), 64), ((52, 15), 65), ((52, 23), 66), ((52, 31), 67), ((52, 39), 68), ((52, 48), 69), ((52, 56), 70), ((52, 64), 71), ((52, 72), 72), ((52, 80), 73), ((52, 88), 74), ((52, 96), 75), ((52, 104), 76), ((52, 112), 77), ((52, 120), 78), ((110, 47), 79)]
def jnaP (x : (Nat × Nat) × Nat) : Prop := 50 ≤ x.2 ∧ x.2 < 90 ∧ ∃ ty, jkt x.2 = some ty ∧ Cond.arrayClass ty ∈ jwords ∧ componentBytes ty ≤ 8
theorem jnaT_0 : jnaP ((11, 34), 60) := ⟨by decide, by decide, _, rfl, jac_int, by decide⟩
theorem jnaT_1 : jnaP ((11, 42), 61) := ⟨by decide, by decide, _, rfl, jac_int, by decide⟩
theorem jnaT_2 : jnaP ((0, 22), 62) := ⟨by decide, by decide, _, rfl, jac_int, by decide⟩
theorem jnaT_3 : jnaP ((9, 8), 63) := ⟨by decide, by decide, _, rfl, jac_int, by decide⟩
theorem jnaT_4 : jnaP ((52, 7), 64) := ⟨by decide, by decide, _, rfl, jac_int, by decide⟩
theorem jnaT_5 : jnaP ((52, 15), 65) := ⟨by decide, by decide, _, rfl, jac_int, by decide⟩
theorem jnaT_6 : jnaP ((52, 23), 66) := ⟨by decide, by decide, _, rfl, jac_int, by decide⟩
theorem jnaT_7 : jnaP ((52, 31), 67) := ⟨by decide, by decide, _, rfl, jac_int, by decide⟩
theorem jnaT_8 : jnaP ((52, 39), 68) := ⟨by decide, by decide, _, rfl, jac_int, by decide⟩
theorem jnaT_9 : jnaP ((52, 48), 69) := ⟨by decide, by decide, _, rfl, jac_int, by decide⟩
theorem jnaT_10 : jnaP ((52, 56), 70) := ⟨by decide, by decide, _, rfl, jac_boolean, by decide⟩
theorem jnaT_11 : jnaP ((52, 64), 71) := ⟨by decide, by decide, _, rfl, jac_boolean, by decide⟩
theorem jnaT_12 : jnaP ((52, 72), 72) := ⟨by decide, by decide, _, rfl, jac_boolean, by decide⟩
theorem jnaT_13 : jnaP ((52, 80), 73) := ⟨by decide, by decide, _, rfl, jac_boolean, by decide⟩
theorem jnaT_14 : jnaP ((52, 88), 74) := ⟨by decide, by decide, _, rfl, jac_int, by decide⟩
theorem jnaT_15 : jnaP ((52, 96), 75) := ⟨by decide, by decide, _, rfl, jac_int, by decide⟩
theorem jnaT_16 : jnaP ((52, 104), 76) := ⟨by decide, by decide, _, rfl, jac_int, by decide⟩
theorem jnaT_17 : jnaP ((52, 112), 77) := ⟨by decide, by decide, _, rfl, jac_long, by decide⟩
theorem jnaT_18 : jnaP ((52, 120), 78) := ⟨by decide, by decide, _, rfl, jac_int, by decide⟩
theorem jnaT_19 : jnaP ((110, 47), 79) := ⟨by decide, by decide, _, rfl, jac_long, by decide⟩
theorem jnaT_ok : ∀ x ∈ jnaT, jnaP x := List.forall_mem_cons.mpr ⟨jnaT_0, List.forall_mem_cons.mpr ⟨jnaT_1, List.forall_mem_cons.mpr ⟨jnaT_2, List.forall_mem_cons.mpr ⟨jnaT_3, List.forall_mem_cons.mpr ⟨jnaT_4, List.forall_mem_cons.mpr ⟨jnaT_5, List.forall_mem_cons.mpr ⟨jnaT_6, List.forall_mem_cons.mpr ⟨jnaT_7, List.forall_mem_cons.mpr ⟨jnaT_8, List.forall_mem_cons.mpr ⟨jnaT_9, List.forall_mem_cons.mpr ⟨jnaT_10, List.forall_mem_cons.mpr ⟨jnaT_11, List.forall_mem_cons.mpr ⟨jnaT_12, List.forall_mem_cons.mpr ⟨jnaT_13, List.forall_mem_cons.mpr ⟨jnaT_14, List.forall_mem_cons.mpr ⟨jnaT_15, List.forall_mem_cons.mpr ⟨jnaT_16, List.forall_mem_cons.mpr ⟨jnaT_17, List.forall_mem_cons.mpr ⟨jnaT_18, List.forall_mem_cons.mpr ⟨jnaT_19, fun _ h => absurd h List.not_mem_nil⟩⟩⟩⟩⟩⟩⟩⟩⟩⟩⟩⟩⟩⟩⟩⟩⟩⟩⟩⟩
theorem jna_own {μ idx : Nat} {a : Nat} (h : jlk jnaT (jow μ) idx = some a) : jnaP ((jow μ, idx), a) := jnaT_ok _ (jlk_mem h)
def jna (μ pc : Nat) (aty : ArrayType) : Option Nat := match jlk jnaT μ pc with
  | some κ => if jkt κ = some (newarray.typeOf aty) then some κ else none
  | none => none
theorem jna_ok {μ pc κ : Nat} {aty : ArrayType} (h : jna μ pc aty = some κ) : jkt κ = some (newarray.typeOf aty) ∧ 50 ≤ κ ∧ κ ≠ 94 ∧ Cond.arrayClass (newarray.typeOf aty) ∈ jwords ∧ componentBytes (newarray.typeOf aty) ≤ 8 := by
  unfold jna at h
  split at h
  · rename_i κ' h1
    split at h
    · rename_i h2
      cases h
      obtain ⟨h3, h4, ty, h5, h6, h7⟩ := jnaT_ok _ (jlk_mem h1)
      dsimp only at h3 h4 h5
      cases h2.symm.trans h5
      exact ⟨h2, h3, by omega, h6, h7⟩
    · cases h
  · cases h
def janwT : List ((Nat × Nat) × Nat) := [((10, 7), 53), ((11, 2), 53)]
def janwP (x : (Nat × Nat) × Nat) : Prop := ∃ C0, jkt x.2 = some (.object C0) ∧ 50 ≤ x.2 ∧ x.2 ≠ 94 ∧ Cond.classLink (jcn x.1.1) x.1.2 C0 ∈ jwords ∧ Cond.arrayOver (.object C0) ∈ jwords
theorem janwT_0 : janwP ((10, 7), 53) := ⟨_, rfl, by decide, by decide, (jmw 305 (by decide +kernel) (by decide +kernel)), (jmw 298 (by decide +kernel) (by decide +kernel))⟩
theorem janwT_1 : janwP ((11, 2), 53) := ⟨_, rfl, by decide, by decide, (jmw 299 (by decide +kernel) (by decide +kernel)), (jmw 298 (by decide +kernel) (by decide +kernel))⟩
theorem janwT_ok : ∀ x ∈ janwT, janwP x := List.forall_mem_cons.mpr ⟨janwT_0, List.forall_mem_cons.mpr ⟨janwT_1, fun _ h => absurd h List.not_mem_nil⟩⟩
theorem janw_own {μ idx : Nat} {a : Nat} (h : jlk janwT (jow μ) idx = some a) : janwP ((jow μ, idx), a) := janwT_ok _ (jlk_mem h)
def janw (o i : Nat) : Option Nat := jlk janwT o i
theorem janw_ok {μ idx κ : Nat} (h : janw (jow μ) idx = some κ) : ∃ C0, jkt κ = some (.object C0) ∧ 50 ≤ κ ∧ κ ≠ 94 ∧ Cond.classLink (jy μ).cls idx C0 ∈ jwords ∧ Cond.arrayOver (.object C0) ∈ jwords := by
  rw [jow_of h (by decide +kernel)]
  exact janw_own h
def jliT : List ((Nat × Nat) × Int32) := [((5, 54), (500000 : Int32)), ((13, 200), (2147483639 : Int32))]
def jliP (x : (Nat × Nat) × Int32) : Prop := Cond.constant (jcn x.1.1) x.1.2 x.2 ∈ jwords
theorem jliT_0 : jliP ((5, 54), (500000 : Int32)) := (jmw 605 (by decide +kernel) (by decide +kernel))
theorem jliT_1 : jliP ((13, 200), (2147483639 : Int32)) := (jmw 275 (by decide +kernel) (by decide +kernel))
theorem jliT_ok : ∀ x ∈ jliT, jliP x := List.forall_mem_cons.mpr ⟨jliT_0, List.forall_mem_cons.mpr ⟨jliT_1, fun _ h => absurd h List.not_mem_nil⟩⟩
theorem jli_own {μ idx : Nat} {a : Int32} (h : jlk jliT (jow μ) idx = some a) : jliP ((jow μ, idx), a) := jliT_ok _ (jlk_mem h)
def jlmT : List ((Nat × Nat) × Nat) := [((11, 110), 1)]
def jlmP (x : (Nat × Nat) × Nat) : Prop := ∃ C, jmir x.2 = some C ∧ Cond.classLink (jcn x.1.1) x.1.2 C ∈ jwords
theorem jlmT_0 : jlmP ((11, 110), 1) := ⟨_, rfl, (jmw 297 (by decide +kernel) (by decide +kernel))⟩
theorem jlmT_ok : ∀ x ∈ jlmT, jlmP x := List.forall_mem_cons.mpr ⟨jlmT_0, fun _ h => absurd h List.not_mem_nil⟩
theorem jlm_own {μ idx : Nat} {a : Nat} (h : jlk jlmT (jow μ) idx = some a) : jlmP ((jow μ, idx), a) := jlmT_ok _ (jlk_mem h)
def jllT : List ((Nat × Nat) × Int64) := [((15, 55), (4294967295 : Int64))]
def jllP (x : (Nat × Nat) × Int64) : Prop := Cond.constantLong (jcn x.1.1) x.1.2 x.2 ∈ jwords
theorem jllT_0 : jllP ((15, 55), (4294967295 : Int64)) := (jmw 839 (by decide +kernel) (by decide +kernel))
theorem jllT_ok : ∀ x ∈ jllT, jllP x := List.forall_mem_cons.mpr ⟨jllT_0, fun _ h => absurd h List.not_mem_nil⟩
theorem jll_own {μ idx : Nat} {a : Int64} (h : jlk jllT (jow μ) idx = some a) : jllP ((jow μ, idx), a) := jllT_ok _ (jlk_mem h)
def jldc (o i : Nat) : Option (Int32 ⊕ Nat) := match jlk jliT o i with
  | some x => some (.inl x)
  | none => (jlk jlmT o i).map .inr
theorem jldc_i {μ idx : Nat} {x : Int32} (h : jldc (jow μ) idx = some (.inl x)) : Cond.constant (jy μ).cls idx x ∈ jwords := by
  unfold jldc at h
  split at h
  · rename_i y hy
    cases h
    rw [jow_of hy (by decide +kernel)]
    exact jli_own hy
  · obtain ⟨z, h1, h2⟩ := Option.map_eq_some_iff.mp h
    cases h2
theorem jldc_m {μ idx k : Nat} (h : jldc (jow μ) idx = some (.inr k)) : ∃ C, jmir k = some C ∧ Cond.classLink (jy μ).cls idx C ∈ jwords := by
  unfold jldc at h
  split at h
  · cases h
  · obtain ⟨z, h1, h2⟩ := Option.map_eq_some_iff.mp h
    cases h2
    rw [jow_of h1 (by decide +kernel)]
    exact jlm_own h1
def jldl (o i : Nat) : Option Int64 := jlk jllT o i
theorem jldl_ok {μ idx : Nat} {x : Int64} (h : jldl (jow μ) idx = some x) : Cond.constantLong (jy μ).cls idx x ∈ jwords := by
  rw [jow_of h (by decide +kernel)]
  exact jll_own h
def jckT : List ((Nat × Nat) × Nat) := [((4, 84), 2), ((4, 117), 5), ((1, 24), 4), ((11, 110), 53)]
def jckP (x : (Nat × Nat) × Nat) : Prop := (x.2 < 50 ∧ ∃ q nm, vwCl[x.2]? = some q ∧ Cond.classLink (jcn x.1.1) x.1.2 nm ∈ jwords ∧ (q.1 = nm ∨ Cond.castable q.1 nm ∈ jwords)) ∨ (50 ≤ x.2 ∧ x.2 ≠ 94 ∧ ∃ ty, jkt x.2 = some ty ∧ Cond.classLink (jcn x.1.1) x.1.2 ("[" ++ ty.toString) ∈ jwords)
theorem jckT_0 : jckP ((4, 84), 2) := Or.inl ⟨by decide, _, _, rfl, (jmw 208 (by decide +kernel) (by decide +kernel)), Or.inl rfl⟩
theorem jckT_1 : jckP ((4, 117), 5) := Or.inl ⟨by decide, _, _, rfl, (jmw 354 (by decide +kernel) (by decide +kernel)), Or.inl rfl⟩
theorem jckT_2 : jckP ((1, 24), 4) := Or.inl ⟨by decide, _, _, rfl, (jmw 426 (by decide +kernel) (by decide +kernel)), Or.inl rfl⟩
theorem jckT_3 : jckP ((11, 110), 53) := Or.inr ⟨by decide, by decide, _, rfl, (jmw 297 (by decide +kernel) (by decide +kernel))⟩
theorem jckT_ok : ∀ x ∈ jckT, jckP x := List.forall_mem_cons.mpr ⟨jckT_0, List.forall_mem_cons.mpr ⟨jckT_1, List.forall_mem_cons.mpr ⟨jckT_2, List.forall_mem_cons.mpr ⟨jckT_3, fun _ h => absurd h List.not_mem_nil⟩⟩⟩⟩
theorem jck_own {μ idx : Nat} {a : Nat} (h : jlk jckT (jow μ) idx = some a) : jckP ((jow μ, idx), a) := jckT_ok _ (jlk_mem h)
def jck (o i κ : Nat) : Bool := jlk jckT o i == some κ
theorem jck_ok {μ idx κ : Nat} (h : jck (jow μ) idx κ = true) : (κ < 50 ∧ ∃ q nm, vwCl[κ]? = some q ∧ Cond.classLink (jy μ).cls idx nm ∈ jwords ∧ (q.1 = nm ∨ Cond.castable q.1 nm ∈ jwords)) ∨ (50 ≤ κ ∧ κ ≠ 94 ∧ ∃ ty, jkt κ = some ty ∧ Cond.classLink (jy μ).cls idx ("[" ++ ty.toString) ∈ jwords) := by
  unfold jck at h
  have h1 : jlk jckT (jow μ) idx = some κ := by simpa using h
  rw [jow_of h1 (by decide +kernel)]
  exact jck_own h1
def jca (κ κv : Nat) : Bool := κ == 53 && (κv == 2 || κv == 4 || κv == 5)
theorem jca_ok {κ κv : Nat} (h : jca κ κv = true) : ∃ C0 q, jkt κ = some (.object C0) ∧ κv < 50 ∧ vwCl[κv]? = some q ∧ (q.1 = C0 ∨ Cond.castable q.1 C0 ∈ jwords) := by
  unfold jca at h
  simp only [Bool.and_eq_true, Bool.or_eq_true, beq_iff_eq] at h
  obtain ⟨h1, h2⟩ := h
  subst h1
  rcases h2 with (h2 | h2) | h2 <;> subst h2
  · exact ⟨_, _, rfl, by decide, rfl, Or.inr (jmw 850 (by decide +kernel) (by decide +kernel))⟩
  · exact ⟨_, _, rfl, by decide, rfl, Or.inr (jmw 852 (by decide +kernel) (by decide +kernel))⟩
  · exact ⟨_, _, rfl, by decide, rfl, Or.inr (jmw 851 (by decide +kernel) (by decide +kernel))⟩
def jntY (k : Nat) : MethodName := match k with
  | 0 => Lib.objectInit
  | 1 => arraycopyName
  | 3 => Lib.Math.max.name
  | 4 => Lib.Math.min.name
  | _ => ⟨"java/lang/Object", "getClass", "()Ljava/lang/Class;"⟩
def jntT : List ((Nat × Nat) × Nat) := [((4, 1), 0), ((0, 3), 0), ((1, 1), 0), ((2, 1), 0), ((3, 1), 0), ((5, 1), 0), ((8, 1), 0), ((4, 156), 1), ((4, 197), 4), ((4, 202), 3), ((10, 79), 3), ((11, 150), 1), ((11, 304), 4), ((13, 194), 3), ((11, 86), 2)]
def jntP (x : (Nat × Nat) × Nat) : Prop := Cond.methodLink (jcn x.1.1) x.1.2 (jntY x.2) ∈ jwords
theorem jntT_0 : jntP ((4, 1), 0) := (jmw 74 (by decide +kernel) (by decide +kernel))
theorem jntT_1 : jntP ((0, 3), 0) := (jmw 213 (by decide +kernel) (by decide +kernel))
theorem jntT_2 : jntP ((1, 1), 0) := (jmw 108 (by decide +kernel) (by decide +kernel))
theorem jntT_3 : jntP ((2, 1), 0) := (jmw 431 (by decide +kernel) (by decide +kernel))
theorem jntT_4 : jntP ((3, 1), 0) := (jmw 359 (by decide +kernel) (by decide +kernel))
theorem jntT_5 : jntP ((5, 1), 0) := (jmw 604 (by decide +kernel) (by decide +kernel))
theorem jntT_6 : jntP ((8, 1), 0) := (jmw 88 (by decide +kernel) (by decide +kernel))
theorem jntT_7 : jntP ((4, 156), 1) := (jmw 479 (by decide +kernel) (by decide +kernel))
theorem jntT_8 : jntP ((4, 197), 4) := (jmw 123 (by decide +kernel) (by decide +kernel))
theorem jntT_9 : jntP ((4, 202), 3) := (jmw 126 (by decide +kernel) (by decide +kernel))
theorem jntT_10 : jntP ((10, 79), 3) := (jmw 304 (by decide +kernel) (by decide +kernel))
theorem jntT_11 : jntP ((11, 150), 1) := (jmw 301 (by decide +kernel) (by decide +kernel))
theorem jntT_12 : jntP ((11, 304), 4) := (jmw 300 (by decide +kernel) (by decide +kernel))
theorem jntT_13 : jntP ((13, 194), 3) := (jmw 274 (by decide +kernel) (by decide +kernel))
theorem jntT_14 : jntP ((11, 86), 2) := (jmw 282 (by decide +kernel) (by decide +kernel))
theorem jntT_ok : ∀ x ∈ jntT, jntP x := List.forall_mem_cons.mpr ⟨jntT_0, List.forall_mem_cons.mpr ⟨jntT_1, List.forall_mem_cons.mpr ⟨jntT_2, List.forall_mem_cons.mpr ⟨jntT_3, List.forall_mem_cons.mpr ⟨jntT_4, List.forall_mem_cons.mpr ⟨jntT_5, List.forall_mem_cons.mpr ⟨jntT_6, List.forall_mem_cons.mpr ⟨jntT_7, List.forall_mem_cons.mpr ⟨jntT_8, List.forall_mem_cons.mpr ⟨jntT_9, List.forall_mem_cons.mpr ⟨jntT_10, List.forall_mem_cons.mpr ⟨jntT_11, List.forall_mem_cons.mpr ⟨jntT_12, List.forall_mem_cons.mpr ⟨jntT_13, List.forall_mem_cons.mpr ⟨jntT_14, fun _ h => absurd h List.not_mem_nil⟩⟩⟩⟩⟩⟩⟩⟩⟩⟩⟩⟩⟩⟩⟩
theorem jnt_own {μ idx : Nat} {a : Nat} (h : jlk jntT (jow μ) idx = some a) : jntP ((jow μ, idx), a) := jntT_ok _ (jlk_mem h)
def jnt (o i : Nat) : Option Nat := jlk jntT o i
theorem jnt_lk {μ idx k : Nat} (h : jnt (jow μ) idx = some k) : Cond.methodLink (jy μ).cls idx (jntY k) ∈ jwords := by
  rw [jow_of h (by decide +kernel)]
  exact jnt_own h
theorem jnt_ok0 {μ idx : Nat} (h : jnt (jow μ) idx = some 0) : Cond.methodLink (jy μ).cls idx Lib.objectInit ∈ jwords ∧ Cond.instanceMethod Lib.objectInit ∈ jwords ∧ Cond.code Lib.objectInit ⟨#[0xb1]⟩ 1 none ∈ jwords := ⟨jnt_lk h, (jmw 75 (by decide +kernel) (by decide +kernel)), (jmw 76 (by decide +kernel) (by decide +kernel))⟩
theorem jnt_ok1 {μ idx : Nat} (h : jnt (jow μ) idx = some 1) : Cond.methodLink (jy μ).cls idx arraycopyName ∈ jwords ∧ Cond.native arraycopyName ∈ jwords ∧ Cond.static arraycopyName ∈ jwords ∧ Cond.initialized "java/lang/System" ∈ jwords := ⟨jnt_lk h, (jmw 303 (by decide +kernel) (by decide +kernel)), (jmw 302 (by decide +kernel) (by decide +kernel)), (jmw 61 (by decide +kernel) (by decide +kernel))⟩
theorem jnt_ok2 {μ idx : Nat} (h : jnt (jow μ) idx = some 2) : Cond.methodLink (jy μ).cls idx ⟨"java/lang/Object", "getClass", "()Ljava/lang/Class;"⟩ ∈ jwords ∧ Cond.declares ⟨"java/lang/Object", "getClass", "()Ljava/lang/Class;"⟩ ∈ jwords ∧ Cond.instanceMethod ⟨"java/lang/Object", "getClass", "()Ljava/lang/Class;"⟩ ∈ jwords ∧ Cond.native ⟨"java/lang/Object", "getClass", "()Ljava/lang/Class;"⟩ ∈ jwords := ⟨jnt_lk h, (jmw 846 (by decide +kernel) (by decide +kernel)), (jmw 283 (by decide +kernel) (by decide +kernel)), (jmw 293 (by decide +kernel) (by decide +kernel))⟩
theorem jnt_ok3 {μ idx : Nat} (h : jnt (jow μ) idx = some 3) : Cond.methodLink (jy μ).cls idx Lib.Math.max.name ∈ jwords ∧ Cond.static Lib.Math.max.name ∈ jwords ∧ Cond.initialized "java/lang/Math" ∈ jwords ∧ Cond.code Lib.Math.max.name Lib.Math.max.code 2 (some .int) ∈ jwords := ⟨jnt_lk h, (jmw 127 (by decide +kernel) (by decide +kernel)), (jmw 54 (by decide +kernel) (by decide +kernel)), (jmw 128 (by decide +kernel) (by decide +kernel))⟩
theorem jnt_ok4 {μ idx : Nat} (h : jnt (jow μ) idx = some 4) : Cond.methodLink (jy μ).cls idx Lib.Math.min.name ∈ jwords ∧ Cond.static Lib.Math.min.name ∈ jwords ∧ Cond.initialized "java/lang/Math" ∈ jwords ∧ Cond.code Lib.Math.min.name Lib.Math.min.code 2 (some .int) ∈ jwords := ⟨jnt_lk h, (jmw 124 (by decide +kernel) (by decide +kernel)), (jmw 54 (by decide +kernel) (by decide +kernel)), (jmw 125 (by decide +kernel) (by decide +kernel))⟩
def jmi (κ : Nat) : Option Nat := match κ with
  | 53 => some 1
  | 95 => some 1
  | _ => none
theorem jmi_ok {κ k : Nat} (h : jmi κ = some k) : ∃ C, jmir k = some C ∧ Cond.selects C ⟨"java/lang/Object", "getClass", "()Ljava/lang/Class;"⟩ ⟨"java/lang/Object", "getClass", "()Ljava/lang/Class;"⟩ ∈ jwords ∧ ((κ < 50 ∧ ∃ q, vwCl[κ]? = some q ∧ q.1 = C) ∨ (50 ≤ κ ∧ κ ≠ 94 ∧ ∃ ty, jkt κ = some ty ∧ C = "[" ++ ty.toString)) := by
  unfold jmi at h
  split at h
  · cases h
    exact ⟨_, rfl, (jmw 845 (by decide +kernel) (by decide +kernel)), Or.inr ⟨by decide, by decide, _, rfl, by decide +kernel⟩⟩
  · cases h
    exact ⟨_, rfl, (jmw 845 (by decide +kernel) (by decide +kernel)), Or.inr ⟨by decide, by decide, _, rfl, by decide +kernel⟩⟩
  · cases h
def jMw (μ n : Nat) : Prop := Cond.code (jy μ) (jcode μ) (jmaxl μ) (jret μ) ∈ jwords ∧ Cond.initialized (jy μ).cls ∈ jwords ∧ ((jy μ).cls ≠ "java/lang/invoke/MethodHandle" ∧ (jy μ).cls ≠ "java/lang/invoke/VarHandle") ∧ (parseMethodDescriptor (jy μ).desc).map (fun d => d.parameters.length) = some n ∧ plainName (jy μ).cls = true ∧ jmaxl μ + 19 ≤ 40
def jM0 (μ κ : Nat) : Prop := Cond.instanceMethod (jy μ) ∈ jwords ∧ ∃ q : vw_C, vwCl[κ]? = some q ∧ κ < 50 ∧ Cond.selects q.1 (jy μ) (jy μ) ∈ jwords
def jM1 (μ : Nat) : Prop := (jy μ).name = "<init>" ∧ Cond.instanceMethod (jy μ) ∈ jwords ∧ jret μ = none
def jM2 (μ : Nat) : Prop := Cond.static (jy μ) ∈ jwords
theorem jMw_J15_checkIndex_7cf53 : jMw 104 2 := ⟨(jmw 200 (by decide +kernel) (by decide +kernel)), (jmw 56 (by decide +kernel) (by decide +kernel)), ⟨by decide +kernel, by decide +kernel⟩, by decide +kernel, by decide +kernel, by decide⟩
theorem jM2_J15_checkIndex_7cf53 : jM2 104 := (jmw 199 (by decide +kernel) (by decide +kernel))
theorem jMw_J3_checkIndex_8e157 : jMw 107 3 := ⟨(jmw 203 (by decide +kernel) (by decide +kernel)), (jmw 57 (by decide +kernel) (by decide +kernel)), ⟨by decide +kernel, by decide +kernel⟩, by decide +kernel, by decide +kernel, by decide⟩
theorem jM2_J3_checkIndex_8e157 : jM2 107 := (jmw 202 (by decide +kernel) (by decide +kernel))
theorem jMw_J7_copyOf_1904c : jMw 102 2 := ⟨(jmw 281 (by decide +kernel) (by decide +kernel)), (jmw 60 (by decide +kernel) (by decide +kernel)), ⟨by decide +kernel, by decide +kernel⟩, by decide +kernel, by decide +kernel, by decide⟩
theorem jM2_J7_copyOf_1904c : jM2 102 := (jmw 280 (by decide +kernel) (by decide +kernel))
theorem jMw_J7_copyOf_6403c : jMw 103 3 := ⟨(jmw 296 (by decide +kernel) (by decide +kernel)), (jmw 60 (by decide +kernel) (by decide +kernel)), ⟨by decide +kernel, by decide +kernel⟩, by decide +kernel, by decide +kernel, by decide⟩
theorem jM2_J7_copyOf_6403c : jM2 103 := (jmw 295 (by decide +kernel) (by decide +kernel))
theorem jMw_J8_hugeLength_7cf53 : jMw 106 2 := ⟨(jmw 278 (by decide +kernel) (by decide +kernel)), (jmw 59 (by decide +kernel) (by decide +kernel)), ⟨by decide +kernel, by decide +kernel⟩, by decide +kernel, by decide +kernel, by decide⟩
theorem jM2_J8_hugeLength_7cf53 : jM2 106 := (jmw 277 (by decide +kernel) (by decide +kernel))
theorem jMw_J8_newLength_cabcc : jMw 105 3 := ⟨(jmw 273 (by decide +kernel) (by decide +kernel)), (jmw 59 (by decide +kernel) (by decide +kernel)), ⟨by decide +kernel, by decide +kernel⟩, by decide +kernel, by decide +kernel, by decide⟩
theorem jM2_J8_newLength_cabcc : jM2 105 := (jmw 272 (by decide +kernel) (by decide +kernel))
theorem jMw_Jx00060_init_a7421 : jMw 89 1 := ⟨(jmw 567 (by decide +kernel) (by decide +kernel)), (jmw 68 (by decide +kernel) (by decide +kernel)), ⟨by decide +kernel, by decide +kernel⟩, by decide +kernel, by decide +kernel, by decide⟩
theorem jM1_Jx00060_init_a7421 : jM1 89 := ⟨by decide +kernel, (jmw 566 (by decide +kernel) (by decide +kernel)), rfl⟩
theorem jMw_Jx4a65c_add_72be8 : jMw 100 3 := ⟨(jmw 262 (by decide +kernel) (by decide +kernel)), (jmw 52 (by decide +kernel) (by decide +kernel)), ⟨by decide +kernel, by decide +kernel⟩, by decide +kernel, by decide +kernel, by decide⟩
theorem jM0_Jx4a65c_add_72be8 : jM0 100 1 := ⟨(jmw 261 (by decide +kernel) (by decide +kernel)), _, rfl, by decide, (jmw 2 (by decide +kernel) (by decide +kernel))⟩
theorem jMw_Jx4a65c_add_9ea2d : jMw 101 1 := ⟨(jmw 258 (by decide +kernel) (by decide +kernel)), (jmw 52 (by decide +kernel) (by decide +kernel)), ⟨by decide +kernel, by decide +kernel⟩, by decide +kernel, by decide +kernel, by decide⟩
theorem jM0_Jx4a65c_add_9ea2d : jM0 101 1 := ⟨(jmw 256 (by decide +kernel) (by decide +kernel)), _, rfl, by decide, (jmw 257 (by decide +kernel) (by decide +kernel))⟩
theorem jMw_Jx4a65c_elementData_915e3 : jMw 98 1 := ⟨(jmw 207 (by decide +kernel) (by decide +kernel)), (jmw 52 (by decide +kernel) (by decide +kernel)), ⟨by decide +kernel, by decide +kernel⟩, by decide +kernel, by decide +kernel, by decide⟩
theorem jM0_Jx4a65c_elementData_915e3 : jM0 98 1 := ⟨(jmw 205 (by decide +kernel) (by decide +kernel)), _, rfl, by decide, (jmw 206 (by decide +kernel) (by decide +kernel))⟩
theorem jMw_Jx4a65c_get_915e3 : jMw 99 1 := ⟨(jmw 197 (by decide +kernel) (by decide +kernel)), (jmw 52 (by decide +kernel) (by decide +kernel)), ⟨by decide +kernel, by decide +kernel⟩, by decide +kernel, by decide +kernel, by decide⟩
theorem jM0_Jx4a65c_get_915e3 : jM0 99 1 := ⟨(jmw 195 (by decide +kernel) (by decide +kernel)), _, rfl, by decide, (jmw 196 (by decide +kernel) (by decide +kernel))⟩
theorem jMw_Jx4a65c_grow_92f84 : jMw 95 1 := ⟨(jmw 270 (by decide +kernel) (by decide +kernel)), (jmw 52 (by decide +kernel) (by decide +kernel)), ⟨by decide +kernel, by decide +kernel⟩, by decide +kernel, by decide +kernel, by decide⟩
theorem jM0_Jx4a65c_grow_92f84 : jM0 95 1 := ⟨(jmw 269 (by decide +kernel) (by decide +kernel)), _, rfl, by decide, (jmw 4 (by decide +kernel) (by decide +kernel))⟩
theorem jMw_Jx4a65c_grow_d5877 : jMw 96 0 := ⟨(jmw 266 (by decide +kernel) (by decide +kernel)), (jmw 52 (by decide +kernel) (by decide +kernel)), ⟨by decide +kernel, by decide +kernel⟩, by decide +kernel, by decide +kernel, by decide⟩
theorem jM0_Jx4a65c_grow_d5877 : jM0 96 1 := ⟨(jmw 265 (by decide +kernel) (by decide +kernel)), _, rfl, by decide, (jmw 3 (by decide +kernel) (by decide +kernel))⟩
theorem jMw_Jx4a65c_init_da8c8 : jMw 94 0 := ⟨(jmw 81 (by decide +kernel) (by decide +kernel)), (jmw 52 (by decide +kernel) (by decide +kernel)), ⟨by decide +kernel, by decide +kernel⟩, by decide +kernel, by decide +kernel, by decide⟩
theorem jM1_Jx4a65c_init_da8c8 : jM1 94 := ⟨by decide +kernel, (jmw 80 (by decide +kernel) (by decide +kernel)), rfl⟩
theorem jMw_Jx4a65c_size_8abf5 : jMw 97 0 := ⟨(jmw 193 (by decide +kernel) (by decide +kernel)), (jmw 52 (by decide +kernel) (by decide +kernel)), ⟨by decide +kernel, by decide +kernel⟩, by decide +kernel, by decide +kernel, by decide⟩
theorem jM0_Jx4a65c_size_8abf5 : jM0 97 1 := ⟨(jmw 191 (by decide +kernel) (by decide +kernel)), _, rfl, by decide, (jmw 192 (by decide +kernel) (by decide +kernel))⟩
theorem jMw_Jxa1e45_init_da8c8 : jMw 92 0 := ⟨(jmw 87 (by decide +kernel) (by decide +kernel)), (jmw 50 (by decide +kernel) (by decide +kernel)), ⟨by decide +kernel, by decide +kernel⟩, by decide +kernel, by decide +kernel, by decide⟩
theorem jM1_Jxa1e45_init_da8c8 : jM1 92 := ⟨by decide +kernel, (jmw 86 (by decide +kernel) (by decide +kernel)), rfl⟩
theorem jMw_Jxc12de_init_da8c8 : jMw 93 0 := ⟨(jmw 84 (by decide +kernel) (by decide +kernel)), (jmw 51 (by decide +kernel) (by decide +kernel)), ⟨by decide +kernel, by decide +kernel⟩, by decide +kernel, by decide +kernel, by decide⟩
theorem jM1_Jxc12de_init_da8c8 : jM1 93 := ⟨by decide +kernel, (jmw 83 (by decide +kernel) (by decide +kernel)), rfl⟩
theorem jMw_L_cell : jMw 108 2 := ⟨(jmw 510 (by decide +kernel) (by decide +kernel)), (jmw 48 (by decide +kernel) (by decide +kernel)), ⟨by decide +kernel, by decide +kernel⟩, by decide +kernel, by decide +kernel, by decide⟩
theorem jM2_L_cell : jM2 108 := (jmw 509 (by decide +kernel) (by decide +kernel))
theorem jMw_X0_addLine : jMw 1 2 := ⟨(jmw 340 (by decide +kernel) (by decide +kernel)), (jmw 58 (by decide +kernel) (by decide +kernel)), ⟨by decide +kernel, by decide +kernel⟩, by decide +kernel, by decide +kernel, by decide⟩
theorem jM0_X0_addLine : jM0 1 2 := ⟨(jmw 338 (by decide +kernel) (by decide +kernel)), _, rfl, by decide, (jmw 339 (by decide +kernel) (by decide +kernel))⟩
theorem jMw_X0_height : jMw 2 0 := ⟨(jmw 336 (by decide +kernel) (by decide +kernel)), (jmw 58 (by decide +kernel) (by decide +kernel)), ⟨by decide +kernel, by decide +kernel⟩, by decide +kernel, by decide +kernel, by decide⟩
theorem jM0_X0_height : jM0 2 2 := ⟨(jmw 334 (by decide +kernel) (by decide +kernel)), _, rfl, by decide, (jmw 335 (by decide +kernel) (by decide +kernel))⟩
theorem jMw_X0_init : jMw 0 3 := ⟨(jmw 212 (by decide +kernel) (by decide +kernel)), (jmw 58 (by decide +kernel) (by decide +kernel)), ⟨by decide +kernel, by decide +kernel⟩, by decide +kernel, by decide +kernel, by decide⟩
theorem jM1_X0_init : jM1 0 := ⟨by decide +kernel, (jmw 211 (by decide +kernel) (by decide +kernel)), rfl⟩
theorem jMw_X0_takesItsTurn : jMw 3 0 := ⟨(jmw 412 (by decide +kernel) (by decide +kernel)), (jmw 58 (by decide +kernel) (by decide +kernel)), ⟨by decide +kernel, by decide +kernel⟩, by decide +kernel, by decide +kernel, by decide⟩
theorem jM0_X0_takesItsTurn : jM0 3 2 := ⟨(jmw 410 (by decide +kernel) (by decide +kernel)), _, rfl, by decide, (jmw 411 (by decide +kernel) (by decide +kernel))⟩
theorem jMw_X1_add : jMw 6 5 := ⟨(jmw 424 (by decide +kernel) (by decide +kernel)), (jmw 53 (by decide +kernel) (by decide +kernel)), ⟨by decide +kernel, by decide +kernel⟩, by decide +kernel, by decide +kernel, by decide⟩
theorem jM0_X1_add : jM0 6 3 := ⟨(jmw 422 (by decide +kernel) (by decide +kernel)), _, rfl, by decide, (jmw 423 (by decide +kernel) (by decide +kernel))⟩
theorem jMw_X1_cell : jMw 8 2 := ⟨(jmw 597 (by decide +kernel) (by decide +kernel)), (jmw 53 (by decide +kernel) (by decide +kernel)), ⟨by decide +kernel, by decide +kernel⟩, by decide +kernel, by decide +kernel, by decide⟩
theorem jM0_X1_cell : jM0 8 3 := ⟨(jmw 595 (by decide +kernel) (by decide +kernel)), _, rfl, by decide, (jmw 596 (by decide +kernel) (by decide +kernel))⟩
theorem jMw_X1_clear : jMw 5 0 := ⟨(jmw 396 (by decide +kernel) (by decide +kernel)), (jmw 53 (by decide +kernel) (by decide +kernel)), ⟨by decide +kernel, by decide +kernel⟩, by decide +kernel, by decide +kernel, by decide⟩
theorem jM0_X1_clear : jM0 5 3 := ⟨(jmw 394 (by decide +kernel) (by decide +kernel)), _, rfl, by decide, (jmw 395 (by decide +kernel) (by decide +kernel))⟩
theorem jMw_X1_has : jMw 7 2 := ⟨(jmw 522 (by decide +kernel) (by decide +kernel)), (jmw 53 (by decide +kernel) (by decide +kernel)), ⟨by decide +kernel, by decide +kernel⟩, by decide +kernel, by decide +kernel, by decide⟩
theorem jM0_X1_has : jM0 7 3 := ⟨(jmw 520 (by decide +kernel) (by decide +kernel)), _, rfl, by decide, (jmw 521 (by decide +kernel) (by decide +kernel))⟩
theorem jMw_X1_init : jMw 4 0 := ⟨(jmw 107 (by decide +kernel) (by decide +kernel)), (jmw 53 (by decide +kernel) (by decide +kernel)), ⟨by decide +kernel, by decide +kernel⟩, by decide +kernel, by decide +kernel, by decide⟩
theorem jM1_X1_init : jM1 4 := ⟨by decide +kernel, (jmw 106 (by decide +kernel) (by decide +kernel)), rfl⟩
theorem jMw_X2_init : jMw 9 0 := ⟨(jmw 430 (by decide +kernel) (by decide +kernel)), (jmw 63 (by decide +kernel) (by decide +kernel)), ⟨by decide +kernel, by decide +kernel⟩, by decide +kernel, by decide +kernel, by decide⟩
theorem jM1_X2_init : jM1 9 := ⟨by decide +kernel, (jmw 429 (by decide +kernel) (by decide +kernel)), rfl⟩
theorem jMw_X3_init : jMw 10 4 := ⟨(jmw 358 (by decide +kernel) (by decide +kernel)), (jmw 62 (by decide +kernel) (by decide +kernel)), ⟨by decide +kernel, by decide +kernel⟩, by decide +kernel, by decide +kernel, by decide⟩
theorem jM1_X3_init : jM1 10 := ⟨by decide +kernel, (jmw 357 (by decide +kernel) (by decide +kernel)), rfl⟩
theorem jMw_X4_addToSums : jMw 49 2 := ⟨(jmw 483 (by decide +kernel) (by decide +kernel)), (jmw 49 (by decide +kernel) (by decide +kernel)), ⟨by decide +kernel, by decide +kernel⟩, by decide +kernel, by decide +kernel, by decide⟩
theorem jM0_X4_addToSums : jM0 49 6 := ⟨(jmw 482 (by decide +kernel) (by decide +kernel)), _, rfl, by decide, (jmw 26 (by decide +kernel) (by decide +kernel))⟩
theorem jMw_X4_at : jMw 20 2 := ⟨(jmw 518 (by decide +kernel) (by decide +kernel)), (jmw 49 (by decide +kernel) (by decide +kernel)), ⟨by decide +kernel, by decide +kernel⟩, by decide +kernel, by decide +kernel, by decide⟩
theorem jM0_X4_at : jM0 20 6 := ⟨(jmw 516 (by decide +kernel) (by decide +kernel)), _, rfl, by decide, (jmw 517 (by decide +kernel) (by decide +kernel))⟩
theorem jMw_X4_beginPage : jMw 40 0 := ⟨(jmw 442 (by decide +kernel) (by decide +kernel)), (jmw 49 (by decide +kernel) (by decide +kernel)), ⟨by decide +kernel, by decide +kernel⟩, by decide +kernel, by decide +kernel, by decide⟩
theorem jM0_X4_beginPage : jM0 40 6 := ⟨(jmw 441 (by decide +kernel) (by decide +kernel)), _, rfl, by decide, (jmw 16 (by decide +kernel) (by decide +kernel))⟩
theorem jMw_X4_changedLevel : jMw 46 0 := ⟨(jmw 404 (by decide +kernel) (by decide +kernel)), (jmw 49 (by decide +kernel) (by decide +kernel)), ⟨by decide +kernel, by decide +kernel⟩, by decide +kernel, by decide +kernel, by decide⟩
theorem jM0_X4_changedLevel : jM0 46 6 := ⟨(jmw 403 (by decide +kernel) (by decide +kernel)), _, rfl, by decide, (jmw 12 (by decide +kernel) (by decide +kernel))⟩
theorem jMw_X4_control : jMw 15 1 := ⟨(jmw 384 (by decide +kernel) (by decide +kernel)), (jmw 49 (by decide +kernel) (by decide +kernel)), ⟨by decide +kernel, by decide +kernel⟩, by decide +kernel, by decide +kernel, by decide⟩
theorem jM0_X4_control : jM0 15 6 := ⟨(jmw 382 (by decide +kernel) (by decide +kernel)), _, rfl, by decide, (jmw 383 (by decide +kernel) (by decide +kernel))⟩
theorem jMw_X4_countPage : jMw 42 0 := ⟨(jmw 416 (by decide +kernel) (by decide +kernel)), (jmw 49 (by decide +kernel) (by decide +kernel)), ⟨by decide +kernel, by decide +kernel⟩, by decide +kernel, by decide +kernel, by decide⟩
theorem jM0_X4_countPage : jM0 42 6 := ⟨(jmw 415 (by decide +kernel) (by decide +kernel)), _, rfl, by decide, (jmw 14 (by decide +kernel) (by decide +kernel))⟩
theorem jMw_X4_counter : jMw 23 1 := ⟨(jmw 499 (by decide +kernel) (by decide +kernel)), (jmw 49 (by decide +kernel) (by decide +kernel)), ⟨by decide +kernel, by decide +kernel⟩, by decide +kernel, by decide +kernel, by decide⟩
theorem jM0_X4_counter : jM0 23 6 := ⟨(jmw 497 (by decide +kernel) (by decide +kernel)), _, rfl, by decide, (jmw 498 (by decide +kernel) (by decide +kernel))⟩
theorem jMw_X4_endPage : jMw 41 0 := ⟨(jmw 462 (by decide +kernel) (by decide +kernel)), (jmw 49 (by decide +kernel) (by decide +kernel)), ⟨by decide +kernel, by decide +kernel⟩, by decide +kernel, by decide +kernel, by decide⟩
theorem jM0_X4_endPage : jM0 41 6 := ⟨(jmw 461 (by decide +kernel) (by decide +kernel)), _, rfl, by decide, (jmw 21 (by decide +kernel) (by decide +kernel))⟩
theorem jMw_X4_firstSumOf : jMw 32 1 := ⟨(jmw 470 (by decide +kernel) (by decide +kernel)), (jmw 49 (by decide +kernel) (by decide +kernel)), ⟨by decide +kernel, by decide +kernel⟩, by decide +kernel, by decide +kernel, by decide⟩
theorem jM0_X4_firstSumOf : jM0 32 6 := ⟨(jmw 469 (by decide +kernel) (by decide +kernel)), _, rfl, by decide, (jmw 23 (by decide +kernel) (by decide +kernel))⟩
theorem jMw_X4_fitsWithLine : jMw 38 3 := ⟨(jmw 317 (by decide +kernel) (by decide +kernel)), (jmw 49 (by decide +kernel) (by decide +kernel)), ⟨by decide +kernel, by decide +kernel⟩, by decide +kernel, by decide +kernel, by decide⟩
theorem jM0_X4_fitsWithLine : jM0 38 6 := ⟨(jmw 316 (by decide +kernel) (by decide +kernel)), _, rfl, by decide, (jmw 6 (by decide +kernel) (by decide +kernel))⟩
theorem jMw_X4_generate : jMw 18 2 := ⟨(jmw 400 (by decide +kernel) (by decide +kernel)), (jmw 49 (by decide +kernel) (by decide +kernel)), ⟨by decide +kernel, by decide +kernel⟩, by decide +kernel, by decide +kernel, by decide⟩
theorem jM0_X4_generate : jM0 18 6 := ⟨(jmw 398 (by decide +kernel) (by decide +kernel)), _, rfl, by decide, (jmw 399 (by decide +kernel) (by decide +kernel))⟩
theorem jMw_X4_group : jMw 12 2 := ⟨(jmw 181 (by decide +kernel) (by decide +kernel)), (jmw 49 (by decide +kernel) (by decide +kernel)), ⟨by decide +kernel, by decide +kernel⟩, by decide +kernel, by decide +kernel, by decide⟩
theorem jM0_X4_group : jM0 12 6 := ⟨(jmw 179 (by decide +kernel) (by decide +kernel)), _, rfl, by decide, (jmw 180 (by decide +kernel) (by decide +kernel))⟩
theorem jMw_X4_groupNumbered : jMw 29 1 := ⟨(jmw 313 (by decide +kernel) (by decide +kernel)), (jmw 49 (by decide +kernel) (by decide +kernel)), ⟨by decide +kernel, by decide +kernel⟩, by decide +kernel, by decide +kernel, by decide⟩
theorem jM0_X4_groupNumbered : jM0 29 6 := ⟨(jmw 312 (by decide +kernel) (by decide +kernel)), _, rfl, by decide, (jmw 5 (by decide +kernel) (by decide +kernel))⟩
theorem jMw_X4_groupOf : jMw 30 2 := ⟨(jmw 189 (by decide +kernel) (by decide +kernel)), (jmw 49 (by decide +kernel) (by decide +kernel)), ⟨by decide +kernel, by decide +kernel⟩, by decide +kernel, by decide +kernel, by decide⟩
theorem jM0_X4_groupOf : jM0 30 6 := ⟨(jmw 188 (by decide +kernel) (by decide +kernel)), _, rfl, by decide, (jmw 1 (by decide +kernel) (by decide +kernel))⟩
theorem jMw_X4_held : jMw 26 3 := ⟨(jmw 122 (by decide +kernel) (by decide +kernel)), (jmw 49 (by decide +kernel) (by decide +kernel)), ⟨by decide +kernel, by decide +kernel⟩, by decide +kernel, by decide +kernel, by decide⟩
theorem jM2_X4_held : jM2 26 := (jmw 121 (by decide +kernel) (by decide +kernel))
theorem jMw_X4_indicate : jMw 25 1 := ⟨(jmw 507 (by decide +kernel) (by decide +kernel)), (jmw 49 (by decide +kernel) (by decide +kernel)), ⟨by decide +kernel, by decide +kernel⟩, by decide +kernel, by decide +kernel, by decide⟩
theorem jM0_X4_indicate : jM0 25 6 := ⟨(jmw 505 (by decide +kernel) (by decide +kernel)), _, rfl, by decide, (jmw 506 (by decide +kernel) (by decide +kernel))⟩
theorem jMw_X4_init : jMw 11 3 := ⟨(jmw 73 (by decide +kernel) (by decide +kernel)), (jmw 49 (by decide +kernel) (by decide +kernel)), ⟨by decide +kernel, by decide +kernel⟩, by decide +kernel, by decide +kernel, by decide⟩
theorem jM1_X4_init : jM1 11 := ⟨by decide +kernel, (jmw 72 (by decide +kernel) (by decide +kernel)), rfl⟩
theorem jMw_X4_initiate : jMw 17 0 := ⟨(jmw 392 (by decide +kernel) (by decide +kernel)), (jmw 49 (by decide +kernel) (by decide +kernel)), ⟨by decide +kernel, by decide +kernel⟩, by decide +kernel, by decide +kernel, by decide⟩
theorem jM0_X4_initiate : jM0 17 6 := ⟨(jmw 390 (by decide +kernel) (by decide +kernel)), _, rfl, by decide, (jmw 391 (by decide +kernel) (by decide +kernel))⟩
theorem jMw_X4_isKindOfLevel : jMw 28 2 := ⟨(jmw 185 (by decide +kernel) (by decide +kernel)), (jmw 49 (by decide +kernel) (by decide +kernel)), ⟨by decide +kernel, by decide +kernel⟩, by decide +kernel, by decide +kernel, by decide⟩
theorem jM0_X4_isKindOfLevel : jM0 28 6 := ⟨(jmw 184 (by decide +kernel) (by decide +kernel)), _, rfl, by decide, (jmw 0 (by decide +kernel) (by decide +kernel))⟩
theorem jMw_X4_isOfBody : jMw 27 1 := ⟨(jmw 324 (by decide +kernel) (by decide +kernel)), (jmw 49 (by decide +kernel) (by decide +kernel)), ⟨by decide +kernel, by decide +kernel⟩, by decide +kernel, by decide +kernel, by decide⟩
theorem jM2_X4_isOfBody : jM2 27 := (jmw 323 (by decide +kernel) (by decide +kernel))
theorem jMw_X4_isSummable : jMw 33 2 := ⟨(jmw 349 (by decide +kernel) (by decide +kernel)), (jmw 49 (by decide +kernel) (by decide +kernel)), ⟨by decide +kernel, by decide +kernel⟩, by decide +kernel, by decide +kernel, by decide⟩
theorem jM0_X4_isSummable : jM0 33 6 := ⟨(jmw 348 (by decide +kernel) (by decide +kernel)), _, rfl, by decide, (jmw 10 (by decide +kernel) (by decide +kernel))⟩
theorem jMw_X4_line : jMw 13 3 := ⟨(jmw 309 (by decide +kernel) (by decide +kernel)), (jmw 49 (by decide +kernel) (by decide +kernel)), ⟨by decide +kernel, by decide +kernel⟩, by decide +kernel, by decide +kernel, by decide⟩
theorem jM0_X4_line : jM0 13 6 := ⟨(jmw 307 (by decide +kernel) (by decide +kernel)), _, rfl, by decide, (jmw 308 (by decide +kernel) (by decide +kernel))⟩
theorem jMw_X4_lines : jMw 21 0 := ⟨(jmw 491 (by decide +kernel) (by decide +kernel)), (jmw 49 (by decide +kernel) (by decide +kernel)), ⟨by decide +kernel, by decide +kernel⟩, by decide +kernel, by decide +kernel, by decide⟩
theorem jM0_X4_lines : jM0 21 6 := ⟨(jmw 489 (by decide +kernel) (by decide +kernel)), _, rfl, by decide, (jmw 490 (by decide +kernel) (by decide +kernel))⟩
theorem jMw_X4_lowestLine : jMw 35 1 := ⟨(jmw 332 (by decide +kernel) (by decide +kernel)), (jmw 49 (by decide +kernel) (by decide +kernel)), ⟨by decide +kernel, by decide +kernel⟩, by decide +kernel, by decide +kernel, by decide⟩
theorem jM0_X4_lowestLine : jM0 35 6 := ⟨(jmw 331 (by decide +kernel) (by decide +kernel)), _, rfl, by decide, (jmw 9 (by decide +kernel) (by decide +kernel))⟩
theorem jMw_X4_printControlFoots : jMw 48 1 := ⟨(jmw 466 (by decide +kernel) (by decide +kernel)), (jmw 49 (by decide +kernel) (by decide +kernel)), ⟨by decide +kernel, by decide +kernel⟩, by decide +kernel, by decide +kernel, by decide⟩
theorem jM0_X4_printControlFoots : jM0 48 6 := ⟨(jmw 465 (by decide +kernel) (by decide +kernel)), _, rfl, by decide, (jmw 22 (by decide +kernel) (by decide +kernel))⟩
theorem jMw_X4_printControlHeads : jMw 47 1 := ⟨(jmw 450 (by decide +kernel) (by decide +kernel)), (jmw 49 (by decide +kernel) (by decide +kernel)), ⟨by decide +kernel, by decide +kernel⟩, by decide +kernel, by decide +kernel, by decide⟩
theorem jM0_X4_printControlHeads : jM0 47 6 := ⟨(jmw 449 (by decide +kernel) (by decide +kernel)), _, rfl, by decide, (jmw 18 (by decide +kernel) (by decide +kernel))⟩
theorem jMw_X4_printFrom : jMw 45 3 := ⟨(jmw 420 (by decide +kernel) (by decide +kernel)), (jmw 49 (by decide +kernel) (by decide +kernel)), ⟨by decide +kernel, by decide +kernel⟩, by decide +kernel, by decide +kernel, by decide⟩
theorem jM0_X4_printFrom : jM0 45 6 := ⟨(jmw 419 (by decide +kernel) (by decide +kernel)), _, rfl, by decide, (jmw 15 (by decide +kernel) (by decide +kernel))⟩
theorem jMw_X4_printInBody : jMw 39 2 := ⟨(jmw 454 (by decide +kernel) (by decide +kernel)), (jmw 49 (by decide +kernel) (by decide +kernel)), ⟨by decide +kernel, by decide +kernel⟩, by decide +kernel, by decide +kernel, by decide⟩
theorem jM0_X4_printInBody : jM0 39 6 := ⟨(jmw 453 (by decide +kernel) (by decide +kernel)), _, rfl, by decide, (jmw 19 (by decide +kernel) (by decide +kernel))⟩
theorem jMw_X4_printOnOwnPage : jMw 44 1 := ⟨(jmw 408 (by decide +kernel) (by decide +kernel)), (jmw 49 (by decide +kernel) (by decide +kernel)), ⟨by decide +kernel, by decide +kernel⟩, by decide +kernel, by decide +kernel, by decide⟩
theorem jM0_X4_printOnOwnPage : jM0 44 6 := ⟨(jmw 407 (by decide +kernel) (by decide +kernel)), _, rfl, by decide, (jmw 13 (by decide +kernel) (by decide +kernel))⟩
theorem jMw_X4_printOutsideBody : jMw 43 1 := ⟨(jmw 446 (by decide +kernel) (by decide +kernel)), (jmw 49 (by decide +kernel) (by decide +kernel)), ⟨by decide +kernel, by decide +kernel⟩, by decide +kernel, by decide +kernel, by decide⟩
theorem jM0_X4_printOutsideBody : jM0 43 6 := ⟨(jmw 445 (by decide +kernel) (by decide +kernel)), _, rfl, by decide, (jmw 17 (by decide +kernel) (by decide +kernel))⟩
theorem jMw_X4_resetSums : jMw 51 1 := ⟨(jmw 478 (by decide +kernel) (by decide +kernel)), (jmw 49 (by decide +kernel) (by decide +kernel)), ⟨by decide +kernel, by decide +kernel⟩, by decide +kernel, by decide +kernel, by decide⟩
theorem jM0_X4_resetSums : jM0 51 6 := ⟨(jmw 477 (by decide +kernel) (by decide +kernel)), _, rfl, by decide, (jmw 25 (by decide +kernel) (by decide +kernel))⟩
theorem jMw_X4_rollSums : jMw 50 1 := ⟨(jmw 474 (by decide +kernel) (by decide +kernel)), (jmw 49 (by decide +kernel) (by decide +kernel)), ⟨by decide +kernel, by decide +kernel⟩, by decide +kernel, by decide +kernel, by decide⟩
theorem jM0_X4_rollSums : jM0 50 6 := ⟨(jmw 473 (by decide +kernel) (by decide +kernel)), _, rfl, by decide, (jmw 24 (by decide +kernel) (by decide +kernel))⟩
theorem jMw_X4_set : jMw 16 2 := ⟨(jmw 388 (by decide +kernel) (by decide +kernel)), (jmw 49 (by decide +kernel) (by decide +kernel)), ⟨by decide +kernel, by decide +kernel⟩, by decide +kernel, by decide +kernel, by decide⟩
theorem jM0_X4_set : jM0 16 6 := ⟨(jmw 386 (by decide +kernel) (by decide +kernel)), _, rfl, by decide, (jmw 387 (by decide +kernel) (by decide +kernel))⟩
theorem jMw_X4_startInBody : jMw 37 1 := ⟨(jmw 458 (by decide +kernel) (by decide +kernel)), (jmw 49 (by decide +kernel) (by decide +kernel)), ⟨by decide +kernel, by decide +kernel⟩, by decide +kernel, by decide +kernel, by decide⟩
theorem jM0_X4_startInBody : jM0 37 6 := ⟨(jmw 457 (by decide +kernel) (by decide +kernel)), _, rfl, by decide, (jmw 20 (by decide +kernel) (by decide +kernel))⟩
theorem jMw_X4_startOnNewPage : jMw 36 3 := ⟨(jmw 321 (by decide +kernel) (by decide +kernel)), (jmw 49 (by decide +kernel) (by decide +kernel)), ⟨by decide +kernel, by decide +kernel⟩, by decide +kernel, by decide +kernel, by decide⟩
theorem jM0_X4_startOnNewPage : jM0 36 6 := ⟨(jmw 320 (by decide +kernel) (by decide +kernel)), _, rfl, by decide, (jmw 7 (by decide +kernel) (by decide +kernel))⟩
theorem jMw_X4_sum : jMw 14 3 := ⟨(jmw 345 (by decide +kernel) (by decide +kernel)), (jmw 49 (by decide +kernel) (by decide +kernel)), ⟨by decide +kernel, by decide +kernel⟩, by decide +kernel, by decide +kernel, by decide⟩
theorem jM0_X4_sum : jM0 14 6 := ⟨(jmw 343 (by decide +kernel) (by decide +kernel)), _, rfl, by decide, (jmw 344 (by decide +kernel) (by decide +kernel))⟩
theorem jMw_X4_sumNumbered : jMw 31 1 := ⟨(jmw 353 (by decide +kernel) (by decide +kernel)), (jmw 49 (by decide +kernel) (by decide +kernel)), ⟨by decide +kernel, by decide +kernel⟩, by decide +kernel, by decide +kernel, by decide⟩
theorem jM0_X4_sumNumbered : jM0 31 6 := ⟨(jmw 352 (by decide +kernel) (by decide +kernel)), _, rfl, by decide, (jmw 11 (by decide +kernel) (by decide +kernel))⟩
theorem jMw_X4_suppress : jMw 24 1 := ⟨(jmw 503 (by decide +kernel) (by decide +kernel)), (jmw 49 (by decide +kernel) (by decide +kernel)), ⟨by decide +kernel, by decide +kernel⟩, by decide +kernel, by decide +kernel, by decide⟩
theorem jM0_X4_suppress : jM0 24 6 := ⟨(jmw 501 (by decide +kernel) (by decide +kernel)), _, rfl, by decide, (jmw 502 (by decide +kernel) (by decide +kernel))⟩
theorem jMw_X4_terminate : jMw 19 0 := ⟨(jmw 487 (by decide +kernel) (by decide +kernel)), (jmw 49 (by decide +kernel) (by decide +kernel)), ⟨by decide +kernel, by decide +kernel⟩, by decide +kernel, by decide +kernel, by decide⟩
theorem jM0_X4_terminate : jM0 19 6 := ⟨(jmw 485 (by decide +kernel) (by decide +kernel)), _, rfl, by decide, (jmw 486 (by decide +kernel) (by decide +kernel))⟩
theorem jMw_X4_topmostLine : jMw 34 1 := ⟨(jmw 328 (by decide +kernel) (by decide +kernel)), (jmw 49 (by decide +kernel) (by decide +kernel)), ⟨by decide +kernel, by decide +kernel⟩, by decide +kernel, by decide +kernel, by decide⟩
theorem jM0_X4_topmostLine : jM0 34 6 := ⟨(jmw 327 (by decide +kernel) (by decide +kernel)), _, rfl, by decide, (jmw 8 (by decide +kernel) (by decide +kernel))⟩
theorem jMw_X4_total : jMw 22 1 := ⟨(jmw 495 (by decide +kernel) (by decide +kernel)), (jmw 49 (by decide +kernel) (by decide +kernel)), ⟨by decide +kernel, by decide +kernel⟩, by decide +kernel, by decide +kernel, by decide⟩
theorem jM0_X4_total : jM0 22 6 := ⟨(jmw 493 (by decide +kernel) (by decide +kernel)), _, rfl, by decide, (jmw 494 (by decide +kernel) (by decide +kernel))⟩
theorem jMw_X5_alone : jMw 71 1 := ⟨(jmw 766 (by decide +kernel) (by decide +kernel)), (jmw 55 (by decide +kernel) (by decide +kernel)), ⟨by decide +kernel, by decide +kernel⟩, by decide +kernel, by decide +kernel, by decide⟩
theorem jM0_X5_alone : jM0 71 7 := ⟨(jmw 765 (by decide +kernel) (by decide +kernel)), _, rfl, by decide, (jmw 34 (by decide +kernel) (by decide +kernel))⟩
theorem jMw_X5_at : jMw 85 2 := ⟨(jmw 826 (by decide +kernel) (by decide +kernel)), (jmw 55 (by decide +kernel) (by decide +kernel)), ⟨by decide +kernel, by decide +kernel⟩, by decide +kernel, by decide +kernel, by decide⟩
theorem jM0_X5_at : jM0 85 7 := ⟨(jmw 824 (by decide +kernel) (by decide +kernel)), _, rfl, by decide, (jmw 825 (by decide +kernel) (by decide +kernel))⟩
theorem jMw_X5_begin : jMw 72 0 := ⟨(jmw 786 (by decide +kernel) (by decide +kernel)), (jmw 55 (by decide +kernel) (by decide +kernel)), ⟨by decide +kernel, by decide +kernel⟩, by decide +kernel, by decide +kernel, by decide⟩
theorem jM0_X5_begin : jM0 72 7 := ⟨(jmw 785 (by decide +kernel) (by decide +kernel)), _, rfl, by decide, (jmw 39 (by decide +kernel) (by decide +kernel))⟩
theorem jMw_X5_changed : jMw 82 0 := ⟨(jmw 806 (by decide +kernel) (by decide +kernel)), (jmw 55 (by decide +kernel) (by decide +kernel)), ⟨by decide +kernel, by decide +kernel⟩, by decide +kernel, by decide +kernel, by decide⟩
theorem jM0_X5_changed : jM0 82 7 := ⟨(jmw 805 (by decide +kernel) (by decide +kernel)), _, rfl, by decide, (jmw 44 (by decide +kernel) (by decide +kernel))⟩
theorem jMw_X5_control : jMw 63 1 := ⟨(jmw 738 (by decide +kernel) (by decide +kernel)), (jmw 55 (by decide +kernel) (by decide +kernel)), ⟨by decide +kernel, by decide +kernel⟩, by decide +kernel, by decide +kernel, by decide⟩
theorem jM0_X5_control : jM0 63 7 := ⟨(jmw 736 (by decide +kernel) (by decide +kernel)), _, rfl, by decide, (jmw 737 (by decide +kernel) (by decide +kernel))⟩
theorem jMw_X5_counter : jMw 88 1 := ⟨(jmw 838 (by decide +kernel) (by decide +kernel)), (jmw 55 (by decide +kernel) (by decide +kernel)), ⟨by decide +kernel, by decide +kernel⟩, by decide +kernel, by decide +kernel, by decide⟩
theorem jM0_X5_counter : jM0 88 7 := ⟨(jmw 836 (by decide +kernel) (by decide +kernel)), _, rfl, by decide, (jmw 837 (by decide +kernel) (by decide +kernel))⟩
theorem jMw_X5_find : jMw 57 2 := ⟨(jmw 710 (by decide +kernel) (by decide +kernel)), (jmw 55 (by decide +kernel) (by decide +kernel)), ⟨by decide +kernel, by decide +kernel⟩, by decide +kernel, by decide +kernel, by decide⟩
theorem jM0_X5_find : jM0 57 7 := ⟨(jmw 709 (by decide +kernel) (by decide +kernel)), _, rfl, by decide, (jmw 28 (by decide +kernel) (by decide +kernel))⟩
theorem jMw_X5_firstSum : jMw 78 1 := ⟨(jmw 814 (by decide +kernel) (by decide +kernel)), (jmw 55 (by decide +kernel) (by decide +kernel)), ⟨by decide +kernel, by decide +kernel⟩, by decide +kernel, by decide +kernel, by decide⟩
theorem jM0_X5_firstSum : jM0 78 7 := ⟨(jmw 813 (by decide +kernel) (by decide +kernel)), _, rfl, by decide, (jmw 46 (by decide +kernel) (by decide +kernel))⟩
theorem jMw_X5_fits : jMw 59 3 := ⟨(jmw 722 (by decide +kernel) (by decide +kernel)), (jmw 55 (by decide +kernel) (by decide +kernel)), ⟨by decide +kernel, by decide +kernel⟩, by decide +kernel, by decide +kernel, by decide⟩
theorem jM0_X5_fits : jM0 59 7 := ⟨(jmw 721 (by decide +kernel) (by decide +kernel)), _, rfl, by decide, (jmw 30 (by decide +kernel) (by decide +kernel))⟩
theorem jMw_X5_foot : jMw 79 1 := ⟨(jmw 810 (by decide +kernel) (by decide +kernel)), (jmw 55 (by decide +kernel) (by decide +kernel)), ⟨by decide +kernel, by decide +kernel⟩, by decide +kernel, by decide +kernel, by decide⟩
theorem jM0_X5_foot : jM0 79 7 := ⟨(jmw 809 (by decide +kernel) (by decide +kernel)), _, rfl, by decide, (jmw 45 (by decide +kernel) (by decide +kernel))⟩
theorem jMw_X5_fresh : jMw 74 0 := ⟨(jmw 758 (by decide +kernel) (by decide +kernel)), (jmw 55 (by decide +kernel) (by decide +kernel)), ⟨by decide +kernel, by decide +kernel⟩, by decide +kernel, by decide +kernel, by decide⟩
theorem jM0_X5_fresh : jM0 74 7 := ⟨(jmw 757 (by decide +kernel) (by decide +kernel)), _, rfl, by decide, (jmw 33 (by decide +kernel) (by decide +kernel))⟩
theorem jMw_X5_generate : jMw 83 2 := ⟨(jmw 762 (by decide +kernel) (by decide +kernel)), (jmw 55 (by decide +kernel) (by decide +kernel)), ⟨by decide +kernel, by decide +kernel⟩, by decide +kernel, by decide +kernel, by decide⟩
theorem jM0_X5_generate : jM0 83 7 := ⟨(jmw 760 (by decide +kernel) (by decide +kernel)), _, rfl, by decide, (jmw 761 (by decide +kernel) (by decide +kernel))⟩
theorem jMw_X5_group : jMw 58 2 := ⟨(jmw 706 (by decide +kernel) (by decide +kernel)), (jmw 55 (by decide +kernel) (by decide +kernel)), ⟨by decide +kernel, by decide +kernel⟩, by decide +kernel, by decide +kernel, by decide⟩
theorem jM0_X5_group : jM0 58 7 := ⟨(jmw 704 (by decide +kernel) (by decide +kernel)), _, rfl, by decide, (jmw 705 (by decide +kernel) (by decide +kernel))⟩
theorem jMw_X5_head : jMw 77 1 := ⟨(jmw 790 (by decide +kernel) (by decide +kernel)), (jmw 55 (by decide +kernel) (by decide +kernel)), ⟨by decide +kernel, by decide +kernel⟩, by decide +kernel, by decide +kernel, by decide⟩
theorem jM0_X5_head : jM0 77 7 := ⟨(jmw 789 (by decide +kernel) (by decide +kernel)), _, rfl, by decide, (jmw 40 (by decide +kernel) (by decide +kernel))⟩
theorem jMw_X5_held : jMw 53 3 := ⟨(jmw 608 (by decide +kernel) (by decide +kernel)), (jmw 55 (by decide +kernel) (by decide +kernel)), ⟨by decide +kernel, by decide +kernel⟩, by decide +kernel, by decide +kernel, by decide⟩
theorem jM2_X5_held : jM2 53 := (jmw 607 (by decide +kernel) (by decide +kernel))
theorem jMw_X5_inBody : jMw 76 2 := ⟨(jmw 794 (by decide +kernel) (by decide +kernel)), (jmw 55 (by decide +kernel) (by decide +kernel)), ⟨by decide +kernel, by decide +kernel⟩, by decide +kernel, by decide +kernel, by decide⟩
theorem jM0_X5_inBody : jM0 76 7 := ⟨(jmw 793 (by decide +kernel) (by decide +kernel)), _, rfl, by decide, (jmw 41 (by decide +kernel) (by decide +kernel))⟩
theorem jMw_X5_indicate : jMw 66 1 := ⟨(jmw 750 (by decide +kernel) (by decide +kernel)), (jmw 55 (by decide +kernel) (by decide +kernel)), ⟨by decide +kernel, by decide +kernel⟩, by decide +kernel, by decide +kernel, by decide⟩
theorem jM0_X5_indicate : jM0 66 7 := ⟨(jmw 748 (by decide +kernel) (by decide +kernel)), _, rfl, by decide, (jmw 749 (by decide +kernel) (by decide +kernel))⟩
theorem jMw_X5_init : jMw 52 3 := ⟨(jmw 603 (by decide +kernel) (by decide +kernel)), (jmw 55 (by decide +kernel) (by decide +kernel)), ⟨by decide +kernel, by decide +kernel⟩, by decide +kernel, by decide +kernel, by decide⟩
theorem jM1_X5_init : jM1 52 := ⟨by decide +kernel, (jmw 602 (by decide +kernel) (by decide +kernel)), rfl⟩
theorem jMw_X5_initiate : jMw 81 0 := ⟨(jmw 754 (by decide +kernel) (by decide +kernel)), (jmw 55 (by decide +kernel) (by decide +kernel)), ⟨by decide +kernel, by decide +kernel⟩, by decide +kernel, by decide +kernel, by decide⟩
theorem jM0_X5_initiate : jM0 81 7 := ⟨(jmw 752 (by decide +kernel) (by decide +kernel)), _, rfl, by decide, (jmw 753 (by decide +kernel) (by decide +kernel))⟩
theorem jMw_X5_isDetail : jMw 56 1 := ⟨(jmw 734 (by decide +kernel) (by decide +kernel)), (jmw 55 (by decide +kernel) (by decide +kernel)), ⟨by decide +kernel, by decide +kernel⟩, by decide +kernel, by decide +kernel, by decide⟩
theorem jM0_X5_isDetail : jM0 56 7 := ⟨(jmw 733 (by decide +kernel) (by decide +kernel)), _, rfl, by decide, (jmw 32 (by decide +kernel) (by decide +kernel))⟩
theorem jMw_X5_isGroup : jMw 55 1 := ⟨(jmw 718 (by decide +kernel) (by decide +kernel)), (jmw 55 (by decide +kernel) (by decide +kernel)), ⟨by decide +kernel, by decide +kernel⟩, by decide +kernel, by decide +kernel, by decide⟩
theorem jM0_X5_isGroup : jM0 55 7 := ⟨(jmw 717 (by decide +kernel) (by decide +kernel)), _, rfl, by decide, (jmw 29 (by decide +kernel) (by decide +kernel))⟩
theorem jMw_X5_isOf : jMw 61 2 := ⟨(jmw 730 (by decide +kernel) (by decide +kernel)), (jmw 55 (by decide +kernel) (by decide +kernel)), ⟨by decide +kernel, by decide +kernel⟩, by decide +kernel, by decide +kernel, by decide⟩
theorem jM0_X5_isOf : jM0 61 7 := ⟨(jmw 729 (by decide +kernel) (by decide +kernel)), _, rfl, by decide, (jmw 31 (by decide +kernel) (by decide +kernel))⟩
theorem jMw_X5_isOn : jMw 68 1 := ⟨(jmw 770 (by decide +kernel) (by decide +kernel)), (jmw 55 (by decide +kernel) (by decide +kernel)), ⟨by decide +kernel, by decide +kernel⟩, by decide +kernel, by decide +kernel, by decide⟩
theorem jM0_X5_isOn : jM0 68 7 := ⟨(jmw 769 (by decide +kernel) (by decide +kernel)), _, rfl, by decide, (jmw 35 (by decide +kernel) (by decide +kernel))⟩
theorem jMw_X5_keep : jMw 80 0 := ⟨(jmw 818 (by decide +kernel) (by decide +kernel)), (jmw 55 (by decide +kernel) (by decide +kernel)), ⟨by decide +kernel, by decide +kernel⟩, by decide +kernel, by decide +kernel, by decide⟩
theorem jM0_X5_keep : jM0 80 7 := ⟨(jmw 817 (by decide +kernel) (by decide +kernel)), _, rfl, by decide, (jmw 47 (by decide +kernel) (by decide +kernel))⟩
theorem jMw_X5_line : jMw 60 3 := ⟨(jmw 714 (by decide +kernel) (by decide +kernel)), (jmw 55 (by decide +kernel) (by decide +kernel)), ⟨by decide +kernel, by decide +kernel⟩, by decide +kernel, by decide +kernel, by decide⟩
theorem jM0_X5_line : jM0 60 7 := ⟨(jmw 712 (by decide +kernel) (by decide +kernel)), _, rfl, by decide, (jmw 713 (by decide +kernel) (by decide +kernel))⟩
theorem jMw_X5_lines : jMw 86 0 := ⟨(jmw 830 (by decide +kernel) (by decide +kernel)), (jmw 55 (by decide +kernel) (by decide +kernel)), ⟨by decide +kernel, by decide +kernel⟩, by decide +kernel, by decide +kernel, by decide⟩
theorem jM0_X5_lines : jM0 86 7 := ⟨(jmw 828 (by decide +kernel) (by decide +kernel)), _, rfl, by decide, (jmw 829 (by decide +kernel) (by decide +kernel))⟩
theorem jMw_X5_over : jMw 73 0 := ⟨(jmw 802 (by decide +kernel) (by decide +kernel)), (jmw 55 (by decide +kernel) (by decide +kernel)), ⟨by decide +kernel, by decide +kernel⟩, by decide +kernel, by decide +kernel, by decide⟩
theorem jM0_X5_over : jM0 73 7 := ⟨(jmw 801 (by decide +kernel) (by decide +kernel)), _, rfl, by decide, (jmw 43 (by decide +kernel) (by decide +kernel))⟩
theorem jMw_X5_put : jMw 67 4 := ⟨(jmw 782 (by decide +kernel) (by decide +kernel)), (jmw 55 (by decide +kernel) (by decide +kernel)), ⟨by decide +kernel, by decide +kernel⟩, by decide +kernel, by decide +kernel, by decide⟩
theorem jM0_X5_put : jM0 67 7 := ⟨(jmw 781 (by decide +kernel) (by decide +kernel)), _, rfl, by decide, (jmw 38 (by decide +kernel) (by decide +kernel))⟩
theorem jMw_X5_putAll : jMw 69 3 := ⟨(jmw 778 (by decide +kernel) (by decide +kernel)), (jmw 55 (by decide +kernel) (by decide +kernel)), ⟨by decide +kernel, by decide +kernel⟩, by decide +kernel, by decide +kernel, by decide⟩
theorem jM0_X5_putAll : jM0 69 7 := ⟨(jmw 777 (by decide +kernel) (by decide +kernel)), _, rfl, by decide, (jmw 37 (by decide +kernel) (by decide +kernel))⟩
theorem jMw_X5_putFrom : jMw 70 3 := ⟨(jmw 774 (by decide +kernel) (by decide +kernel)), (jmw 55 (by decide +kernel) (by decide +kernel)), ⟨by decide +kernel, by decide +kernel⟩, by decide +kernel, by decide +kernel, by decide⟩
theorem jM0_X5_putFrom : jM0 70 7 := ⟨(jmw 773 (by decide +kernel) (by decide +kernel)), _, rfl, by decide, (jmw 36 (by decide +kernel) (by decide +kernel))⟩
theorem jMw_X5_set : jMw 64 2 := ⟨(jmw 742 (by decide +kernel) (by decide +kernel)), (jmw 55 (by decide +kernel) (by decide +kernel)), ⟨by decide +kernel, by decide +kernel⟩, by decide +kernel, by decide +kernel, by decide⟩
theorem jM0_X5_set : jM0 64 7 := ⟨(jmw 740 (by decide +kernel) (by decide +kernel)), _, rfl, by decide, (jmw 741 (by decide +kernel) (by decide +kernel))⟩
theorem jMw_X5_sum : jMw 62 3 := ⟨(jmw 726 (by decide +kernel) (by decide +kernel)), (jmw 55 (by decide +kernel) (by decide +kernel)), ⟨by decide +kernel, by decide +kernel⟩, by decide +kernel, by decide +kernel, by decide⟩
theorem jM0_X5_sum : jM0 62 7 := ⟨(jmw 724 (by decide +kernel) (by decide +kernel)), _, rfl, by decide, (jmw 725 (by decide +kernel) (by decide +kernel))⟩
theorem jMw_X5_suppress : jMw 65 1 := ⟨(jmw 746 (by decide +kernel) (by decide +kernel)), (jmw 55 (by decide +kernel) (by decide +kernel)), ⟨by decide +kernel, by decide +kernel⟩, by decide +kernel, by decide +kernel, by decide⟩
theorem jM0_X5_suppress : jM0 65 7 := ⟨(jmw 744 (by decide +kernel) (by decide +kernel)), _, rfl, by decide, (jmw 745 (by decide +kernel) (by decide +kernel))⟩
theorem jMw_X5_terminate : jMw 84 0 := ⟨(jmw 822 (by decide +kernel) (by decide +kernel)), (jmw 55 (by decide +kernel) (by decide +kernel)), ⟨by decide +kernel, by decide +kernel⟩, by decide +kernel, by decide +kernel, by decide⟩
theorem jM0_X5_terminate : jM0 84 7 := ⟨(jmw 820 (by decide +kernel) (by decide +kernel)), _, rfl, by decide, (jmw 821 (by decide +kernel) (by decide +kernel))⟩
theorem jMw_X5_thrown : jMw 54 0 := ⟨(jmw 702 (by decide +kernel) (by decide +kernel)), (jmw 55 (by decide +kernel) (by decide +kernel)), ⟨by decide +kernel, by decide +kernel⟩, by decide +kernel, by decide +kernel, by decide⟩
theorem jM0_X5_thrown : jM0 54 7 := ⟨(jmw 700 (by decide +kernel) (by decide +kernel)), _, rfl, by decide, (jmw 701 (by decide +kernel) (by decide +kernel))⟩
theorem jMw_X5_top : jMw 75 1 := ⟨(jmw 798 (by decide +kernel) (by decide +kernel)), (jmw 55 (by decide +kernel) (by decide +kernel)), ⟨by decide +kernel, by decide +kernel⟩, by decide +kernel, by decide +kernel, by decide⟩
theorem jM0_X5_top : jM0 75 7 := ⟨(jmw 797 (by decide +kernel) (by decide +kernel)), _, rfl, by decide, (jmw 42 (by decide +kernel) (by decide +kernel))⟩
theorem jMw_X5_total : jMw 87 1 := ⟨(jmw 834 (by decide +kernel) (by decide +kernel)), (jmw 55 (by decide +kernel) (by decide +kernel)), ⟨by decide +kernel, by decide +kernel⟩, by decide +kernel, by decide +kernel, by decide⟩
theorem jM0_X5_total : jM0 87 7 := ⟨(jmw 832 (by decide +kernel) (by decide +kernel)), _, rfl, by decide, (jmw 833 (by decide +kernel) (by decide +kernel))⟩
def jmtT : List ((Nat × Nat) × (Nat × Nat × Nat × Nat)) := [((4, 9), (1, 94, 0, 0)), ((4, 32), (1, 4, 0, 0)), ((4, 86), (1, 0, 3, 0)), ((4, 122), (1, 10, 4, 0)), ((4, 180), (1, 89, 1, 0)), ((1, 9), (1, 94, 0, 0)), ((1, 26), (1, 9, 0, 0)), ((15, 21), (1, 11, 3, 0)), ((15, 26), (1, 52, 3, 0)), ((9, 1), (1, 92, 0, 0)), ((10, 1), (1, 93, 0, 0)), ((4, 59), (2, 26, 3, 0)), ((4, 209), (2, 27, 1, 0)), ((15, 15), (2, 108, 2, 0)), ((5, 58), (2, 53, 3, 0)), ((10, 66), (2, 102, 2, 0)), ((10, 73), (2, 105, 3, 0)), ((10, 118), (2, 104, 2, 0)), ((11, 300), (2, 103, 3, 0)), ((12, 105), (2, 107, 3, 0)), ((13, 201), (2, 106, 2, 0)), ((4, 72), (0, 28, 2, 6)), ((4, 76), (0, 30, 2, 6)), ((4, 80), (0, 97, 0, 1)), ((4, 89), (0, 101, 1, 1)), ((4, 93), (0, 29, 1, 6)), ((4, 100), (0, 38, 3, 6)), ((4, 104), (0, 1, 2, 2)), ((4, 114), (0, 33, 2, 6)), ((4, 125), (0, 5, 0, 3)), ((4, 128), (0, 99, 1, 1)), ((4, 139), (0, 46, 0, 6)), ((4, 142), (0, 44, 1, 6)), ((4, 146), (0, 40, 0, 6)), ((4, 149), (0, 47, 1, 6)), ((4, 153), (0, 48, 1, 6)), ((4, 162), (0, 49, 2, 6)), ((4, 166), (0, 39, 2, 6)), ((4, 170), (0, 41, 0, 6)), ((4, 173), (0, 7, 2, 3)), ((4, 183), (0, 8, 2, 3)), ((4, 187), (0, 31, 1, 6)), ((4, 219), (0, 36, 3, 6)), ((4, 223), (0, 34, 1, 6)), ((4, 227), (0, 35, 1, 6)), ((4, 230), (0, 2, 0, 2)), ((4, 233), (0, 3, 0, 2)), ((4, 237), (0, 37, 1, 6)), ((4, 244), (0, 45, 3, 6)), ((4, 248), (0, 42, 0, 6)), ((4, 251), (0, 43, 1, 6)), ((4, 257), (0, 6, 5, 3)), ((4, 260), (0, 32, 1, 6)), ((4, 263), (0, 50, 1, 6)), ((4, 266), (0, 51, 1, 6)), ((0, 44), (0, 2, 0, 2)), ((1, 20), (0, 97, 0, 1)), ((1, 27), (0, 101, 1, 1)), ((1, 31), (0, 99, 1, 1)), ((1, 39), (0, 7, 2, 3)), ((15, 7), (0, 20, 2, 6)), ((15, 27), (0, 12, 2, 6)), ((15, 30), (0, 58, 2, 7)), ((15, 31), (0, 13, 3, 6)), ((15, 35), (0, 60, 3, 7)), ((15, 36), (0, 14, 3, 6)), ((15, 40), (0, 62, 3, 7)), ((15, 41), (0, 15, 1, 6)), ((15, 45), (0, 63, 1, 7)), ((15, 46), (0, 16, 2, 6)), ((15, 49), (0, 64, 2, 7)), ((15, 50), (0, 17, 0, 6)), ((15, 54), (0, 81, 0, 7)), ((15, 57), (0, 18, 2, 6)), ((15, 61), (0, 83, 2, 7)), ((15, 62), (0, 19, 0, 6)), ((15, 65), (0, 84, 0, 7)), ((15, 69), (0, 85, 2, 7)), ((15, 70), (0, 54, 0, 7)), ((15, 73), (0, 21, 0, 6)), ((15, 76), (0, 86, 0, 7)), ((15, 77), (0, 22, 1, 6)), ((15, 81), (0, 87, 1, 7)), ((15, 82), (0, 23, 1, 6)), ((15, 85), (0, 88, 1, 7)), ((15, 86), (0, 24, 1, 6)), ((15, 89), (0, 65, 1, 7)), ((15, 90), (0, 25, 1, 6)), ((15, 93), (0, 66, 1, 7)), ((5, 78), (0, 55, 1, 7)), ((5, 89), (0, 57, 2, 7)), ((5, 93), (0, 59, 3, 7)), ((5, 97), (0, 56, 1, 7)), ((5, 103), (0, 61, 2, 7)), ((5, 116), (0, 67, 4, 7)), ((5, 120), (0, 69, 3, 7)), ((5, 124), (0, 68, 1, 7)), ((5, 127), (0, 70, 3, 7)), ((5, 133), (0, 74, 0, 7)), ((5, 136), (0, 75, 1, 7)), ((5, 140), (0, 73, 0, 7)), ((5, 143), (0, 72, 0, 7)), ((5, 146), (0, 76, 2, 7)), ((5, 150), (0, 78, 1, 7)), ((5, 159), (0, 71, 1, 7)), ((5, 163), (0, 77, 1, 7)), ((5, 166), (0, 82, 0, 7)), ((5, 170), (0, 79, 1, 7)), ((5, 172), (0, 80, 0, 7)), ((10, 69), (0, 95, 1, 1)), ((10, 123), (0, 98, 1, 1)), ((10, 129), (0, 96, 0, 1)), ((10, 131), (0, 100, 3, 1))]
def jmtP (x : (Nat × Nat) × (Nat × Nat × Nat × Nat)) : Prop := (Cond.methodLink (jcn x.1.1) x.1.2 (jy x.2.2.1) ∈ jwords ∨ ∃ host : String, Cond.methodLinkNest (jcn x.1.1) x.1.2 (jy x.2.2.1) host ∈ jwords) ∧ jMw x.2.2.1 x.2.2.2.1 ∧ (x.2.1 = 0 → jM0 x.2.2.1 x.2.2.2.2) ∧ (x.2.1 = 1 → jM1 x.2.2.1) ∧ (x.2.1 = 2 → jM2 x.2.2.1)
theorem jmtT_0 : jmtP ((4, 9), (1, 94, 0, 0)) := ⟨Or.inl (jmw 79 (by decide +kernel) (by decide +kernel)), jMw_Jx4a65c_init_da8c8, fun h => absurd h (by decide), fun _ => jM1_Jx4a65c_init_da8c8, fun h => absurd h (by decide)⟩
theorem jmtT_1 : jmtP ((4, 32), (1, 4, 0, 0)) := ⟨Or.inr ⟨"ReportWriter", (jmw 105 (by decide +kernel) (by decide +kernel))⟩, jMw_X1_init, fun h => absurd h (by decide), fun _ => jM1_X1_init, fun h => absurd h (by decide)⟩
theorem jmtT_2 : jmtP ((4, 86), (1, 0, 3, 0)) := ⟨Or.inl (jmw 210 (by decide +kernel) (by decide +kernel)), jMw_X0_init, fun h => absurd h (by decide), fun _ => jM1_X0_init, fun h => absurd h (by decide)⟩
theorem jmtT_3 : jmtP ((4, 122), (1, 10, 4, 0)) := ⟨Or.inl (jmw 356 (by decide +kernel) (by decide +kernel)), jMw_X3_init, fun h => absurd h (by decide), fun _ => jM1_X3_init, fun h => absurd h (by decide)⟩
theorem jmtT_4 : jmtP ((4, 180), (1, 89, 1, 0)) := ⟨Or.inl (jmw 565 (by decide +kernel) (by decide +kernel)), jMw_Jx00060_init_a7421, fun h => absurd h (by decide), fun _ => jM1_Jx00060_init_a7421, fun h => absurd h (by decide)⟩
theorem jmtT_5 : jmtP ((1, 9), (1, 94, 0, 0)) := ⟨Or.inl (jmw 110 (by decide +kernel) (by decide +kernel)), jMw_Jx4a65c_init_da8c8, fun h => absurd h (by decide), fun _ => jM1_Jx4a65c_init_da8c8, fun h => absurd h (by decide)⟩
theorem jmtT_6 : jmtP ((1, 26), (1, 9, 0, 0)) := ⟨Or.inr ⟨"ReportWriter", (jmw 428 (by decide +kernel) (by decide +kernel))⟩, jMw_X2_init, fun h => absurd h (by decide), fun _ => jM1_X2_init, fun h => absurd h (by decide)⟩
theorem jmtT_7 : jmtP ((15, 21), (1, 11, 3, 0)) := ⟨Or.inl (jmw 71 (by decide +kernel) (by decide +kernel)), jMw_X4_init, fun h => absurd h (by decide), fun _ => jM1_X4_init, fun h => absurd h (by decide)⟩
theorem jmtT_8 : jmtP ((15, 26), (1, 52, 3, 0)) := ⟨Or.inl (jmw 601 (by decide +kernel) (by decide +kernel)), jMw_X5_init, fun h => absurd h (by decide), fun _ => jM1_X5_init, fun h => absurd h (by decide)⟩
theorem jmtT_9 : jmtP ((9, 1), (1, 92, 0, 0)) := ⟨Or.inl (jmw 85 (by decide +kernel) (by decide +kernel)), jMw_Jxa1e45_init_da8c8, fun h => absurd h (by decide), fun _ => jM1_Jxa1e45_init_da8c8, fun h => absurd h (by decide)⟩
theorem jmtT_10 : jmtP ((10, 1), (1, 93, 0, 0)) := ⟨Or.inl (jmw 82 (by decide +kernel) (by decide +kernel)), jMw_Jxc12de_init_da8c8, fun h => absurd h (by decide), fun _ => jM1_Jxc12de_init_da8c8, fun h => absurd h (by decide)⟩
theorem jmtT_11 : jmtP ((4, 59), (2, 26, 3, 0)) := ⟨Or.inl (jmw 120 (by decide +kernel) (by decide +kernel)), jMw_X4_held, fun h => absurd h (by decide), fun h => absurd h (by decide), fun _ => jM2_X4_held⟩
theorem jmtT_12 : jmtP ((4, 209), (2, 27, 1, 0)) := ⟨Or.inl (jmw 322 (by decide +kernel) (by decide +kernel)), jMw_X4_isOfBody, fun h => absurd h (by decide), fun h => absurd h (by decide), fun _ => jM2_X4_isOfBody⟩
theorem jmtT_13 : jmtP ((15, 15), (2, 108, 2, 0)) := ⟨Or.inl (jmw 508 (by decide +kernel) (by decide +kernel)), jMw_L_cell, fun h => absurd h (by decide), fun h => absurd h (by decide), fun _ => jM2_L_cell⟩
theorem jmtT_14 : jmtP ((5, 58), (2, 53, 3, 0)) := ⟨Or.inl (jmw 606 (by decide +kernel) (by decide +kernel)), jMw_X5_held, fun h => absurd h (by decide), fun h => absurd h (by decide), fun _ => jM2_X5_held⟩
theorem jmtT_15 : jmtP ((10, 66), (2, 102, 2, 0)) := ⟨Or.inl (jmw 279 (by decide +kernel) (by decide +kernel)), jMw_J7_copyOf_1904c, fun h => absurd h (by decide), fun h => absurd h (by decide), fun _ => jM2_J7_copyOf_1904c⟩
theorem jmtT_16 : jmtP ((10, 73), (2, 105, 3, 0)) := ⟨Or.inl (jmw 271 (by decide +kernel) (by decide +kernel)), jMw_J8_newLength_cabcc, fun h => absurd h (by decide), fun h => absurd h (by decide), fun _ => jM2_J8_newLength_cabcc⟩
theorem jmtT_17 : jmtP ((10, 118), (2, 104, 2, 0)) := ⟨Or.inl (jmw 198 (by decide +kernel) (by decide +kernel)), jMw_J15_checkIndex_7cf53, fun h => absurd h (by decide), fun h => absurd h (by decide), fun _ => jM2_J15_checkIndex_7cf53⟩
theorem jmtT_18 : jmtP ((11, 300), (2, 103, 3, 0)) := ⟨Or.inl (jmw 294 (by decide +kernel) (by decide +kernel)), jMw_J7_copyOf_6403c, fun h => absurd h (by decide), fun h => absurd h (by decide), fun _ => jM2_J7_copyOf_6403c⟩
theorem jmtT_19 : jmtP ((12, 105), (2, 107, 3, 0)) := ⟨Or.inl (jmw 201 (by decide +kernel) (by decide +kernel)), jMw_J3_checkIndex_8e157, fun h => absurd h (by decide), fun h => absurd h (by decide), fun _ => jM2_J3_checkIndex_8e157⟩
theorem jmtT_20 : jmtP ((13, 201), (2, 106, 2, 0)) := ⟨Or.inl (jmw 276 (by decide +kernel) (by decide +kernel)), jMw_J8_hugeLength_7cf53, fun h => absurd h (by decide), fun h => absurd h (by decide), fun _ => jM2_J8_hugeLength_7cf53⟩
theorem jmtT_21 : jmtP ((4, 72), (0, 28, 2, 6)) := ⟨Or.inl (jmw 182 (by decide +kernel) (by decide +kernel)), jMw_X4_isKindOfLevel, fun _ => jM0_X4_isKindOfLevel, fun h => absurd h (by decide), fun h => absurd h (by decide)⟩
theorem jmtT_22 : jmtP ((4, 76), (0, 30, 2, 6)) := ⟨Or.inl (jmw 186 (by decide +kernel) (by decide +kernel)), jMw_X4_groupOf, fun _ => jM0_X4_groupOf, fun h => absurd h (by decide), fun h => absurd h (by decide)⟩
theorem jmtT_23 : jmtP ((4, 80), (0, 97, 0, 1)) := ⟨Or.inl (jmw 190 (by decide +kernel) (by decide +kernel)), jMw_Jx4a65c_size_8abf5, fun _ => jM0_Jx4a65c_size_8abf5, fun h => absurd h (by decide), fun h => absurd h (by decide)⟩
theorem jmtT_24 : jmtP ((4, 89), (0, 101, 1, 1)) := ⟨Or.inl (jmw 255 (by decide +kernel) (by decide +kernel)), jMw_Jx4a65c_add_9ea2d, fun _ => jM0_Jx4a65c_add_9ea2d, fun h => absurd h (by decide), fun h => absurd h (by decide)⟩
theorem jmtT_25 : jmtP ((4, 93), (0, 29, 1, 6)) := ⟨Or.inl (jmw 310 (by decide +kernel) (by decide +kernel)), jMw_X4_groupNumbered, fun _ => jM0_X4_groupNumbered, fun h => absurd h (by decide), fun h => absurd h (by decide)⟩
theorem jmtT_26 : jmtP ((4, 100), (0, 38, 3, 6)) := ⟨Or.inl (jmw 314 (by decide +kernel) (by decide +kernel)), jMw_X4_fitsWithLine, fun _ => jM0_X4_fitsWithLine, fun h => absurd h (by decide), fun h => absurd h (by decide)⟩
theorem jmtT_27 : jmtP ((4, 104), (0, 1, 2, 2)) := ⟨Or.inl (jmw 337 (by decide +kernel) (by decide +kernel)), jMw_X0_addLine, fun _ => jM0_X0_addLine, fun h => absurd h (by decide), fun h => absurd h (by decide)⟩
theorem jmtT_28 : jmtP ((4, 114), (0, 33, 2, 6)) := ⟨Or.inl (jmw 346 (by decide +kernel) (by decide +kernel)), jMw_X4_isSummable, fun _ => jM0_X4_isSummable, fun h => absurd h (by decide), fun h => absurd h (by decide)⟩
theorem jmtT_29 : jmtP ((4, 125), (0, 5, 0, 3)) := ⟨Or.inl (jmw 393 (by decide +kernel) (by decide +kernel)), jMw_X1_clear, fun _ => jM0_X1_clear, fun h => absurd h (by decide), fun h => absurd h (by decide)⟩
theorem jmtT_30 : jmtP ((4, 128), (0, 99, 1, 1)) := ⟨Or.inl (jmw 194 (by decide +kernel) (by decide +kernel)), jMw_Jx4a65c_get_915e3, fun _ => jM0_Jx4a65c_get_915e3, fun h => absurd h (by decide), fun h => absurd h (by decide)⟩
theorem jmtT_31 : jmtP ((4, 139), (0, 46, 0, 6)) := ⟨Or.inl (jmw 401 (by decide +kernel) (by decide +kernel)), jMw_X4_changedLevel, fun _ => jM0_X4_changedLevel, fun h => absurd h (by decide), fun h => absurd h (by decide)⟩
theorem jmtT_32 : jmtP ((4, 142), (0, 44, 1, 6)) := ⟨Or.inl (jmw 405 (by decide +kernel) (by decide +kernel)), jMw_X4_printOnOwnPage, fun _ => jM0_X4_printOnOwnPage, fun h => absurd h (by decide), fun h => absurd h (by decide)⟩
theorem jmtT_33 : jmtP ((4, 146), (0, 40, 0, 6)) := ⟨Or.inl (jmw 439 (by decide +kernel) (by decide +kernel)), jMw_X4_beginPage, fun _ => jM0_X4_beginPage, fun h => absurd h (by decide), fun h => absurd h (by decide)⟩
theorem jmtT_34 : jmtP ((4, 149), (0, 47, 1, 6)) := ⟨Or.inl (jmw 447 (by decide +kernel) (by decide +kernel)), jMw_X4_printControlHeads, fun _ => jM0_X4_printControlHeads, fun h => absurd h (by decide), fun h => absurd h (by decide)⟩
theorem jmtT_35 : jmtP ((4, 153), (0, 48, 1, 6)) := ⟨Or.inl (jmw 463 (by decide +kernel) (by decide +kernel)), jMw_X4_printControlFoots, fun _ => jM0_X4_printControlFoots, fun h => absurd h (by decide), fun h => absurd h (by decide)⟩
theorem jmtT_36 : jmtP ((4, 162), (0, 49, 2, 6)) := ⟨Or.inl (jmw 480 (by decide +kernel) (by decide +kernel)), jMw_X4_addToSums, fun _ => jM0_X4_addToSums, fun h => absurd h (by decide), fun h => absurd h (by decide)⟩
theorem jmtT_37 : jmtP ((4, 166), (0, 39, 2, 6)) := ⟨Or.inl (jmw 451 (by decide +kernel) (by decide +kernel)), jMw_X4_printInBody, fun _ => jM0_X4_printInBody, fun h => absurd h (by decide), fun h => absurd h (by decide)⟩
theorem jmtT_38 : jmtP ((4, 170), (0, 41, 0, 6)) := ⟨Or.inl (jmw 459 (by decide +kernel) (by decide +kernel)), jMw_X4_endPage, fun _ => jM0_X4_endPage, fun h => absurd h (by decide), fun h => absurd h (by decide)⟩
theorem jmtT_39 : jmtP ((4, 173), (0, 7, 2, 3)) := ⟨Or.inl (jmw 519 (by decide +kernel) (by decide +kernel)), jMw_X1_has, fun _ => jM0_X1_has, fun h => absurd h (by decide), fun h => absurd h (by decide)⟩
theorem jmtT_40 : jmtP ((4, 183), (0, 8, 2, 3)) := ⟨Or.inl (jmw 594 (by decide +kernel) (by decide +kernel)), jMw_X1_cell, fun _ => jM0_X1_cell, fun h => absurd h (by decide), fun h => absurd h (by decide)⟩
theorem jmtT_41 : jmtP ((4, 187), (0, 31, 1, 6)) := ⟨Or.inl (jmw 350 (by decide +kernel) (by decide +kernel)), jMw_X4_sumNumbered, fun _ => jM0_X4_sumNumbered, fun h => absurd h (by decide), fun h => absurd h (by decide)⟩
theorem jmtT_42 : jmtP ((4, 219), (0, 36, 3, 6)) := ⟨Or.inl (jmw 318 (by decide +kernel) (by decide +kernel)), jMw_X4_startOnNewPage, fun _ => jM0_X4_startOnNewPage, fun h => absurd h (by decide), fun h => absurd h (by decide)⟩
theorem jmtT_43 : jmtP ((4, 223), (0, 34, 1, 6)) := ⟨Or.inl (jmw 325 (by decide +kernel) (by decide +kernel)), jMw_X4_topmostLine, fun _ => jM0_X4_topmostLine, fun h => absurd h (by decide), fun h => absurd h (by decide)⟩
theorem jmtT_44 : jmtP ((4, 227), (0, 35, 1, 6)) := ⟨Or.inl (jmw 329 (by decide +kernel) (by decide +kernel)), jMw_X4_lowestLine, fun _ => jM0_X4_lowestLine, fun h => absurd h (by decide), fun h => absurd h (by decide)⟩
theorem jmtT_45 : jmtP ((4, 230), (0, 2, 0, 2)) := ⟨Or.inl (jmw 333 (by decide +kernel) (by decide +kernel)), jMw_X0_height, fun _ => jM0_X0_height, fun h => absurd h (by decide), fun h => absurd h (by decide)⟩
theorem jmtT_46 : jmtP ((4, 233), (0, 3, 0, 2)) := ⟨Or.inl (jmw 409 (by decide +kernel) (by decide +kernel)), jMw_X0_takesItsTurn, fun _ => jM0_X0_takesItsTurn, fun h => absurd h (by decide), fun h => absurd h (by decide)⟩
theorem jmtT_47 : jmtP ((4, 237), (0, 37, 1, 6)) := ⟨Or.inl (jmw 455 (by decide +kernel) (by decide +kernel)), jMw_X4_startInBody, fun _ => jM0_X4_startInBody, fun h => absurd h (by decide), fun h => absurd h (by decide)⟩
theorem jmtT_48 : jmtP ((4, 244), (0, 45, 3, 6)) := ⟨Or.inl (jmw 417 (by decide +kernel) (by decide +kernel)), jMw_X4_printFrom, fun _ => jM0_X4_printFrom, fun h => absurd h (by decide), fun h => absurd h (by decide)⟩
theorem jmtT_49 : jmtP ((4, 248), (0, 42, 0, 6)) := ⟨Or.inl (jmw 413 (by decide +kernel) (by decide +kernel)), jMw_X4_countPage, fun _ => jM0_X4_countPage, fun h => absurd h (by decide), fun h => absurd h (by decide)⟩
theorem jmtT_50 : jmtP ((4, 251), (0, 43, 1, 6)) := ⟨Or.inl (jmw 443 (by decide +kernel) (by decide +kernel)), jMw_X4_printOutsideBody, fun _ => jM0_X4_printOutsideBody, fun h => absurd h (by decide), fun h => absurd h (by decide)⟩
theorem jmtT_51 : jmtP ((4, 257), (0, 6, 5, 3)) := ⟨Or.inl (jmw 421 (by decide +kernel) (by decide +kernel)), jMw_X1_add, fun _ => jM0_X1_add, fun h => absurd h (by decide), fun h => absurd h (by decide)⟩
theorem jmtT_52 : jmtP ((4, 260), (0, 32, 1, 6)) := ⟨Or.inl (jmw 467 (by decide +kernel) (by decide +kernel)), jMw_X4_firstSumOf, fun _ => jM0_X4_firstSumOf, fun h => absurd h (by decide), fun h => absurd h (by decide)⟩
theorem jmtT_53 : jmtP ((4, 263), (0, 50, 1, 6)) := ⟨Or.inl (jmw 471 (by decide +kernel) (by decide +kernel)), jMw_X4_rollSums, fun _ => jM0_X4_rollSums, fun h => absurd h (by decide), fun h => absurd h (by decide)⟩
theorem jmtT_54 : jmtP ((4, 266), (0, 51, 1, 6)) := ⟨Or.inl (jmw 475 (by decide +kernel) (by decide +kernel)), jMw_X4_resetSums, fun _ => jM0_X4_resetSums, fun h => absurd h (by decide), fun h => absurd h (by decide)⟩
theorem jmtT_55 : jmtP ((0, 44), (0, 2, 0, 2)) := ⟨Or.inl (jmw 341 (by decide +kernel) (by decide +kernel)), jMw_X0_height, fun _ => jM0_X0_height, fun h => absurd h (by decide), fun h => absurd h (by decide)⟩
theorem jmtT_56 : jmtP ((1, 20), (0, 97, 0, 1)) := ⟨Or.inl (jmw 425 (by decide +kernel) (by decide +kernel)), jMw_Jx4a65c_size_8abf5, fun _ => jM0_Jx4a65c_size_8abf5, fun h => absurd h (by decide), fun h => absurd h (by decide)⟩
theorem jmtT_57 : jmtP ((1, 27), (0, 101, 1, 1)) := ⟨Or.inl (jmw 437 (by decide +kernel) (by decide +kernel)), jMw_Jx4a65c_add_9ea2d, fun _ => jM0_Jx4a65c_add_9ea2d, fun h => absurd h (by decide), fun h => absurd h (by decide)⟩
theorem jmtT_58 : jmtP ((1, 31), (0, 99, 1, 1)) := ⟨Or.inl (jmw 438 (by decide +kernel) (by decide +kernel)), jMw_Jx4a65c_get_915e3, fun _ => jM0_Jx4a65c_get_915e3, fun h => absurd h (by decide), fun h => absurd h (by decide)⟩
theorem jmtT_59 : jmtP ((1, 39), (0, 7, 2, 3)) := ⟨Or.inl (jmw 598 (by decide +kernel) (by decide +kernel)), jMw_X1_has, fun _ => jM0_X1_has, fun h => absurd h (by decide), fun h => absurd h (by decide)⟩
theorem jmtT_60 : jmtP ((15, 7), (0, 20, 2, 6)) := ⟨Or.inl (jmw 515 (by decide +kernel) (by decide +kernel)), jMw_X4_at, fun _ => jM0_X4_at, fun h => absurd h (by decide), fun h => absurd h (by decide)⟩
theorem jmtT_61 : jmtP ((15, 27), (0, 12, 2, 6)) := ⟨Or.inl (jmw 178 (by decide +kernel) (by decide +kernel)), jMw_X4_group, fun _ => jM0_X4_group, fun h => absurd h (by decide), fun h => absurd h (by decide)⟩
theorem jmtT_62 : jmtP ((15, 30), (0, 58, 2, 7)) := ⟨Or.inl (jmw 703 (by decide +kernel) (by decide +kernel)), jMw_X5_group, fun _ => jM0_X5_group, fun h => absurd h (by decide), fun h => absurd h (by decide)⟩
theorem jmtT_63 : jmtP ((15, 31), (0, 13, 3, 6)) := ⟨Or.inl (jmw 306 (by decide +kernel) (by decide +kernel)), jMw_X4_line, fun _ => jM0_X4_line, fun h => absurd h (by decide), fun h => absurd h (by decide)⟩
theorem jmtT_64 : jmtP ((15, 35), (0, 60, 3, 7)) := ⟨Or.inl (jmw 711 (by decide +kernel) (by decide +kernel)), jMw_X5_line, fun _ => jM0_X5_line, fun h => absurd h (by decide), fun h => absurd h (by decide)⟩
theorem jmtT_65 : jmtP ((15, 36), (0, 14, 3, 6)) := ⟨Or.inl (jmw 342 (by decide +kernel) (by decide +kernel)), jMw_X4_sum, fun _ => jM0_X4_sum, fun h => absurd h (by decide), fun h => absurd h (by decide)⟩
theorem jmtT_66 : jmtP ((15, 40), (0, 62, 3, 7)) := ⟨Or.inl (jmw 723 (by decide +kernel) (by decide +kernel)), jMw_X5_sum, fun _ => jM0_X5_sum, fun h => absurd h (by decide), fun h => absurd h (by decide)⟩
theorem jmtT_67 : jmtP ((15, 41), (0, 15, 1, 6)) := ⟨Or.inl (jmw 381 (by decide +kernel) (by decide +kernel)), jMw_X4_control, fun _ => jM0_X4_control, fun h => absurd h (by decide), fun h => absurd h (by decide)⟩
theorem jmtT_68 : jmtP ((15, 45), (0, 63, 1, 7)) := ⟨Or.inl (jmw 735 (by decide +kernel) (by decide +kernel)), jMw_X5_control, fun _ => jM0_X5_control, fun h => absurd h (by decide), fun h => absurd h (by decide)⟩
theorem jmtT_69 : jmtP ((15, 46), (0, 16, 2, 6)) := ⟨Or.inl (jmw 385 (by decide +kernel) (by decide +kernel)), jMw_X4_set, fun _ => jM0_X4_set, fun h => absurd h (by decide), fun h => absurd h (by decide)⟩
theorem jmtT_70 : jmtP ((15, 49), (0, 64, 2, 7)) := ⟨Or.inl (jmw 739 (by decide +kernel) (by decide +kernel)), jMw_X5_set, fun _ => jM0_X5_set, fun h => absurd h (by decide), fun h => absurd h (by decide)⟩
theorem jmtT_71 : jmtP ((15, 50), (0, 17, 0, 6)) := ⟨Or.inl (jmw 389 (by decide +kernel) (by decide +kernel)), jMw_X4_initiate, fun _ => jM0_X4_initiate, fun h => absurd h (by decide), fun h => absurd h (by decide)⟩
theorem jmtT_72 : jmtP ((15, 54), (0, 81, 0, 7)) := ⟨Or.inl (jmw 751 (by decide +kernel) (by decide +kernel)), jMw_X5_initiate, fun _ => jM0_X5_initiate, fun h => absurd h (by decide), fun h => absurd h (by decide)⟩
theorem jmtT_73 : jmtP ((15, 57), (0, 18, 2, 6)) := ⟨Or.inl (jmw 397 (by decide +kernel) (by decide +kernel)), jMw_X4_generate, fun _ => jM0_X4_generate, fun h => absurd h (by decide), fun h => absurd h (by decide)⟩
theorem jmtT_74 : jmtP ((15, 61), (0, 83, 2, 7)) := ⟨Or.inl (jmw 759 (by decide +kernel) (by decide +kernel)), jMw_X5_generate, fun _ => jM0_X5_generate, fun h => absurd h (by decide), fun h => absurd h (by decide)⟩
theorem jmtT_75 : jmtP ((15, 62), (0, 19, 0, 6)) := ⟨Or.inl (jmw 484 (by decide +kernel) (by decide +kernel)), jMw_X4_terminate, fun _ => jM0_X4_terminate, fun h => absurd h (by decide), fun h => absurd h (by decide)⟩
theorem jmtT_76 : jmtP ((15, 65), (0, 84, 0, 7)) := ⟨Or.inl (jmw 819 (by decide +kernel) (by decide +kernel)), jMw_X5_terminate, fun _ => jM0_X5_terminate, fun h => absurd h (by decide), fun h => absurd h (by decide)⟩
theorem jmtT_77 : jmtP ((15, 69), (0, 85, 2, 7)) := ⟨Or.inl (jmw 823 (by decide +kernel) (by decide +kernel)), jMw_X5_at, fun _ => jM0_X5_at, fun h => absurd h (by decide), fun h => absurd h (by decide)⟩
theorem jmtT_78 : jmtP ((15, 70), (0, 54, 0, 7)) := ⟨Or.inl (jmw 699 (by decide +kernel) (by decide +kernel)), jMw_X5_thrown, fun _ => jM0_X5_thrown, fun h => absurd h (by decide), fun h => absurd h (by decide)⟩
theorem jmtT_79 : jmtP ((15, 73), (0, 21, 0, 6)) := ⟨Or.inl (jmw 488 (by decide +kernel) (by decide +kernel)), jMw_X4_lines, fun _ => jM0_X4_lines, fun h => absurd h (by decide), fun h => absurd h (by decide)⟩
theorem jmtT_80 : jmtP ((15, 76), (0, 86, 0, 7)) := ⟨Or.inl (jmw 827 (by decide +kernel) (by decide +kernel)), jMw_X5_lines, fun _ => jM0_X5_lines, fun h => absurd h (by decide), fun h => absurd h (by decide)⟩
theorem jmtT_81 : jmtP ((15, 77), (0, 22, 1, 6)) := ⟨Or.inl (jmw 492 (by decide +kernel) (by decide +kernel)), jMw_X4_total, fun _ => jM0_X4_total, fun h => absurd h (by decide), fun h => absurd h (by decide)⟩
theorem jmtT_82 : jmtP ((15, 81), (0, 87, 1, 7)) := ⟨Or.inl (jmw 831 (by decide +kernel) (by decide +kernel)), jMw_X5_total, fun _ => jM0_X5_total, fun h => absurd h (by decide), fun h => absurd h (by decide)⟩
theorem jmtT_83 : jmtP ((15, 82), (0, 23, 1, 6)) := ⟨Or.inl (jmw 496 (by decide +kernel) (by decide +kernel)), jMw_X4_counter, fun _ => jM0_X4_counter, fun h => absurd h (by decide), fun h => absurd h (by decide)⟩
theorem jmtT_84 : jmtP ((15, 85), (0, 88, 1, 7)) := ⟨Or.inl (jmw 835 (by decide +kernel) (by decide +kernel)), jMw_X5_counter, fun _ => jM0_X5_counter, fun h => absurd h (by decide), fun h => absurd h (by decide)⟩
theorem jmtT_85 : jmtP ((15, 86), (0, 24, 1, 6)) := ⟨Or.inl (jmw 500 (by decide +kernel) (by decide +kernel)), jMw_X4_suppress, fun _ => jM0_X4_suppress, fun h => absurd h (by decide), fun h => absurd h (by decide)⟩
theorem jmtT_86 : jmtP ((15, 89), (0, 65, 1, 7)) := ⟨Or.inl (jmw 743 (by decide +kernel) (by decide +kernel)), jMw_X5_suppress, fun _ => jM0_X5_suppress, fun h => absurd h (by decide), fun h => absurd h (by decide)⟩
theorem jmtT_87 : jmtP ((15, 90), (0, 25, 1, 6)) := ⟨Or.inl (jmw 504 (by decide +kernel) (by decide +kernel)), jMw_X4_indicate, fun _ => jM0_X4_indicate, fun h => absurd h (by decide), fun h => absurd h (by decide)⟩
theorem jmtT_88 : jmtP ((15, 93), (0, 66, 1, 7)) := ⟨Or.inl (jmw 747 (by decide +kernel) (by decide +kernel)), jMw_X5_indicate, fun _ => jM0_X5_indicate, fun h => absurd h (by decide), fun h => absurd h (by decide)⟩
theorem jmtT_89 : jmtP ((5, 78), (0, 55, 1, 7)) := ⟨Or.inl (jmw 715 (by decide +kernel) (by decide +kernel)), jMw_X5_isGroup, fun _ => jM0_X5_isGroup, fun h => absurd h (by decide), fun h => absurd h (by decide)⟩
theorem jmtT_90 : jmtP ((5, 89), (0, 57, 2, 7)) := ⟨Or.inl (jmw 707 (by decide +kernel) (by decide +kernel)), jMw_X5_find, fun _ => jM0_X5_find, fun h => absurd h (by decide), fun h => absurd h (by decide)⟩
theorem jmtT_91 : jmtP ((5, 93), (0, 59, 3, 7)) := ⟨Or.inl (jmw 719 (by decide +kernel) (by decide +kernel)), jMw_X5_fits, fun _ => jM0_X5_fits, fun h => absurd h (by decide), fun h => absurd h (by decide)⟩
theorem jmtT_92 : jmtP ((5, 97), (0, 56, 1, 7)) := ⟨Or.inl (jmw 731 (by decide +kernel) (by decide +kernel)), jMw_X5_isDetail, fun _ => jM0_X5_isDetail, fun h => absurd h (by decide), fun h => absurd h (by decide)⟩
theorem jmtT_93 : jmtP ((5, 103), (0, 61, 2, 7)) := ⟨Or.inl (jmw 727 (by decide +kernel) (by decide +kernel)), jMw_X5_isOf, fun _ => jM0_X5_isOf, fun h => absurd h (by decide), fun h => absurd h (by decide)⟩
theorem jmtT_94 : jmtP ((5, 116), (0, 67, 4, 7)) := ⟨Or.inl (jmw 779 (by decide +kernel) (by decide +kernel)), jMw_X5_put, fun _ => jM0_X5_put, fun h => absurd h (by decide), fun h => absurd h (by decide)⟩
theorem jmtT_95 : jmtP ((5, 120), (0, 69, 3, 7)) := ⟨Or.inl (jmw 775 (by decide +kernel) (by decide +kernel)), jMw_X5_putAll, fun _ => jM0_X5_putAll, fun h => absurd h (by decide), fun h => absurd h (by decide)⟩
theorem jmtT_96 : jmtP ((5, 124), (0, 68, 1, 7)) := ⟨Or.inl (jmw 767 (by decide +kernel) (by decide +kernel)), jMw_X5_isOn, fun _ => jM0_X5_isOn, fun h => absurd h (by decide), fun h => absurd h (by decide)⟩
theorem jmtT_97 : jmtP ((5, 127), (0, 70, 3, 7)) := ⟨Or.inl (jmw 771 (by decide +kernel) (by decide +kernel)), jMw_X5_putFrom, fun _ => jM0_X5_putFrom, fun h => absurd h (by decide), fun h => absurd h (by decide)⟩
theorem jmtT_98 : jmtP ((5, 133), (0, 74, 0, 7)) := ⟨Or.inl (jmw 755 (by decide +kernel) (by decide +kernel)), jMw_X5_fresh, fun _ => jM0_X5_fresh, fun h => absurd h (by decide), fun h => absurd h (by decide)⟩
theorem jmtT_99 : jmtP ((5, 136), (0, 75, 1, 7)) := ⟨Or.inl (jmw 795 (by decide +kernel) (by decide +kernel)), jMw_X5_top, fun _ => jM0_X5_top, fun h => absurd h (by decide), fun h => absurd h (by decide)⟩
theorem jmtT_100 : jmtP ((5, 140), (0, 73, 0, 7)) := ⟨Or.inl (jmw 799 (by decide +kernel) (by decide +kernel)), jMw_X5_over, fun _ => jM0_X5_over, fun h => absurd h (by decide), fun h => absurd h (by decide)⟩
theorem jmtT_101 : jmtP ((5, 143), (0, 72, 0, 7)) := ⟨Or.inl (jmw 783 (by decide +kernel) (by decide +kernel)), jMw_X5_begin, fun _ => jM0_X5_begin, fun h => absurd h (by decide), fun h => absurd h (by decide)⟩
theorem jmtT_102 : jmtP ((5, 146), (0, 76, 2, 7)) := ⟨Or.inl (jmw 791 (by decide +kernel) (by decide +kernel)), jMw_X5_inBody, fun _ => jM0_X5_inBody, fun h => absurd h (by decide), fun h => absurd h (by decide)⟩
theorem jmtT_103 : jmtP ((5, 150), (0, 78, 1, 7)) := ⟨Or.inl (jmw 811 (by decide +kernel) (by decide +kernel)), jMw_X5_firstSum, fun _ => jM0_X5_firstSum, fun h => absurd h (by decide), fun h => absurd h (by decide)⟩
theorem jmtT_104 : jmtP ((5, 159), (0, 71, 1, 7)) := ⟨Or.inl (jmw 763 (by decide +kernel) (by decide +kernel)), jMw_X5_alone, fun _ => jM0_X5_alone, fun h => absurd h (by decide), fun h => absurd h (by decide)⟩
theorem jmtT_105 : jmtP ((5, 163), (0, 77, 1, 7)) := ⟨Or.inl (jmw 787 (by decide +kernel) (by decide +kernel)), jMw_X5_head, fun _ => jM0_X5_head, fun h => absurd h (by decide), fun h => absurd h (by decide)⟩
theorem jmtT_106 : jmtP ((5, 166), (0, 82, 0, 7)) := ⟨Or.inl (jmw 803 (by decide +kernel) (by decide +kernel)), jMw_X5_changed, fun _ => jM0_X5_changed, fun h => absurd h (by decide), fun h => absurd h (by decide)⟩
theorem jmtT_107 : jmtP ((5, 170), (0, 79, 1, 7)) := ⟨Or.inl (jmw 807 (by decide +kernel) (by decide +kernel)), jMw_X5_foot, fun _ => jM0_X5_foot, fun h => absurd h (by decide), fun h => absurd h (by decide)⟩
theorem jmtT_108 : jmtP ((5, 172), (0, 80, 0, 7)) := ⟨Or.inl (jmw 815 (by decide +kernel) (by decide +kernel)), jMw_X5_keep, fun _ => jM0_X5_keep, fun h => absurd h (by decide), fun h => absurd h (by decide)⟩
theorem jmtT_109 : jmtP ((10, 69), (0, 95, 1, 1)) := ⟨Or.inl (jmw 267 (by decide +kernel) (by decide +kernel)), jMw_Jx4a65c_grow_92f84, fun _ => jM0_Jx4a65c_grow_92f84, fun h => absurd h (by decide), fun h => absurd h (by decide)⟩
theorem jmtT_110 : jmtP ((10, 123), (0, 98, 1, 1)) := ⟨Or.inl (jmw 204 (by decide +kernel) (by decide +kernel)), jMw_Jx4a65c_elementData_915e3, fun _ => jM0_Jx4a65c_elementData_915e3, fun h => absurd h (by decide), fun h => absurd h (by decide)⟩
theorem jmtT_111 : jmtP ((10, 129), (0, 96, 0, 1)) := ⟨Or.inl (jmw 263 (by decide +kernel) (by decide +kernel)), jMw_Jx4a65c_grow_d5877, fun _ => jM0_Jx4a65c_grow_d5877, fun h => absurd h (by decide), fun h => absurd h (by decide)⟩
theorem jmtT_112 : jmtP ((10, 131), (0, 100, 3, 1)) := ⟨Or.inl (jmw 259 (by decide +kernel) (by decide +kernel)), jMw_Jx4a65c_add_72be8, fun _ => jM0_Jx4a65c_add_72be8, fun h => absurd h (by decide), fun h => absurd h (by decide)⟩
theorem jmtT_ok : ∀ x ∈ jmtT, jmtP x := List.forall_mem_cons.mpr ⟨jmtT_0, List.forall_mem_cons.mpr ⟨jmtT_1, List.forall_mem_cons.mpr ⟨jmtT_2, List.forall_mem_cons.mpr ⟨jmtT_3, List.forall_mem_cons.mpr ⟨jmtT_4, List.forall_mem_cons.mpr ⟨jmtT_5, List.forall_mem_cons.mpr ⟨jmtT_6, List.forall_mem_cons.mpr ⟨jmtT_7, List.forall_mem_cons.mpr ⟨jmtT_8, List.forall_mem_cons.mpr ⟨jmtT_9, List.forall_mem_cons.mpr ⟨jmtT_10, List.forall_mem_cons.mpr ⟨jmtT_11, List.forall_mem_cons.mpr ⟨jmtT_12, List.forall_mem_cons.mpr ⟨jmtT_13, List.forall_mem_cons.mpr ⟨jmtT_14, List.forall_mem_cons.mpr ⟨jmtT_15, List.forall_mem_cons.mpr ⟨jmtT_16, List.forall_mem_cons.mpr ⟨jmtT_17, List.forall_mem_cons.mpr ⟨jmtT_18, List.forall_mem_cons.mpr ⟨jmtT_19, List.forall_mem_cons.mpr ⟨jmtT_20, List.forall_mem_cons.mpr ⟨jmtT_21, List.forall_mem_cons.mpr ⟨jmtT_22, List.forall_mem_cons.mpr ⟨jmtT_23, List.forall_mem_cons.mpr ⟨jmtT_24, List.forall_mem_cons.mpr ⟨jmtT_25, List.forall_mem_cons.mpr ⟨jmtT_26, List.forall_mem_cons.mpr ⟨jmtT_27, List.forall_mem_cons.mpr ⟨jmtT_28, List.forall_mem_cons.mpr ⟨jmtT_29, List.forall_mem_cons.mpr ⟨jmtT_30, List.forall_mem_cons.mpr ⟨jmtT_31, List.forall_mem_cons.mpr ⟨jmtT_32, List.forall_mem_cons.mpr ⟨jmtT_33, List.forall_mem_cons.mpr ⟨jmtT_34, List.forall_mem_cons.mpr ⟨jmtT_35, List.forall_mem_cons.mpr ⟨jmtT_36, List.forall_mem_cons.mpr ⟨jmtT_37, List.forall_mem_cons.mpr ⟨jmtT_38, List.forall_mem_cons.mpr ⟨jmtT_39, List.forall_mem_cons.mpr ⟨jmtT_40, List.forall_mem_cons.mpr ⟨jmtT_41, List.forall_mem_cons.mpr ⟨jmtT_42, List.forall_mem_cons.mpr ⟨jmtT_43, List.forall_mem_cons.mpr ⟨jmtT_44, List.forall_mem_cons.mpr ⟨jmtT_45, List.forall_mem_cons.mpr ⟨jmtT_46, List.forall_mem_cons.mpr ⟨jmtT_47, List.forall_mem_cons.mpr ⟨jmtT_48, List.forall_mem_cons.mpr ⟨jmtT_49, List.forall_mem_cons.mpr ⟨jmtT_50, List.forall_mem_cons.mpr ⟨jmtT_51, List.forall_mem_cons.mpr ⟨jmtT_52, List.forall_mem_cons.mpr ⟨jmtT_53, List.forall_mem_cons.mpr ⟨jmtT_54, List.forall_mem_cons.mpr ⟨jmtT_55, List.forall_mem_cons.mpr ⟨jmtT_56, List.forall_mem_cons.mpr ⟨jmtT_57, List.forall_mem_cons.mpr ⟨jmtT_58, List.forall_mem_cons.mpr ⟨jmtT_59, List.forall_mem_cons.mpr ⟨jmtT_60, List.forall_mem_cons.mpr ⟨jmtT_61, List.forall_mem_cons.mpr ⟨jmtT_62, List.forall_mem_cons.mpr ⟨jmtT_63, List.forall_mem_cons.mpr ⟨jmtT_64, List.forall_mem_cons.mpr ⟨jmtT_65, List.forall_mem_cons.mpr ⟨jmtT_66, List.forall_mem_cons.mpr ⟨jmtT_67, List.forall_mem_cons.mpr ⟨jmtT_68, List.forall_mem_cons.mpr ⟨jmtT_69, List.forall_mem_cons.mpr ⟨jmtT_70, List.forall_mem_cons.mpr ⟨jmtT_71, List.forall_mem_cons.mpr ⟨jmtT_72, List.forall_mem_cons.mpr ⟨jmtT_73, List.forall_mem_cons.mpr ⟨jmtT_74, List.forall_mem_cons.mpr ⟨jmtT_75, List.forall_mem_cons.mpr ⟨jmtT_76, List.forall_mem_cons.mpr ⟨jmtT_77, List.forall_mem_cons.mpr ⟨jmtT_78, List.forall_mem_cons.mpr ⟨jmtT_79, List.forall_mem_cons.mpr ⟨jmtT_80, List.forall_mem_cons.mpr ⟨jmtT_81, List.forall_mem_cons.mpr ⟨jmtT_82, List.forall_mem_cons.mpr ⟨jmtT_83, List.forall_mem_cons.mpr ⟨jmtT_84, List.forall_mem_cons.mpr ⟨jmtT_85, List.forall_mem_cons.mpr ⟨jmtT_86, List.forall_mem_cons.mpr ⟨jmtT_87, List.forall_mem_cons.mpr ⟨jmtT_88, List.forall_mem_cons.mpr ⟨jmtT_89, List.forall_mem_cons.mpr ⟨jmtT_90, List.forall_mem_cons.mpr ⟨jmtT_91, List.forall_mem_cons.mpr ⟨jmtT_92, List.forall_mem_cons.mpr ⟨jmtT_93, List.forall_mem_cons.mpr ⟨jmtT_94, List.forall_mem_cons.mpr ⟨jmtT_95, List.forall_mem_cons.mpr ⟨jmtT_96, List.forall_mem_cons.mpr ⟨jmtT_97, List.forall_mem_cons.mpr ⟨jmtT_98, List.forall_mem_cons.mpr ⟨jmtT_99, List.forall_mem_cons.mpr ⟨jmtT_100, List.forall_mem_cons.mpr ⟨jmtT_101, List.forall_mem_cons.mpr ⟨jmtT_102, List.forall_mem_cons.mpr ⟨jmtT_103, List.forall_mem_cons.mpr ⟨jmtT_104, List.forall_mem_cons.mpr ⟨jmtT_105, List.forall_mem_cons.mpr ⟨jmtT_106, List.forall_mem_cons.mpr ⟨jmtT_107, List.forall_mem_cons.mpr ⟨jmtT_108, List.forall_mem_cons.mpr ⟨jmtT_109, List.forall_mem_cons.mpr ⟨jmtT_110, List.forall_mem_cons.mpr ⟨jmtT_111, List.forall_mem_cons.mpr ⟨jmtT_112, fun _ h => absurd h List.not_mem_nil⟩⟩⟩⟩⟩⟩⟩⟩⟩⟩⟩⟩⟩⟩⟩⟩⟩⟩⟩⟩⟩⟩⟩⟩⟩⟩⟩⟩⟩⟩⟩⟩⟩⟩⟩⟩⟩⟩⟩⟩⟩⟩⟩⟩⟩⟩⟩⟩⟩⟩⟩⟩⟩⟩⟩⟩⟩⟩⟩⟩⟩⟩⟩⟩⟩⟩⟩⟩⟩⟩⟩⟩⟩⟩⟩⟩⟩⟩⟩⟩⟩⟩⟩⟩⟩⟩⟩⟩⟩⟩⟩⟩⟩⟩⟩⟩⟩⟩⟩⟩⟩⟩⟩⟩⟩⟩⟩⟩⟩⟩⟩⟩⟩
theorem jmt_own {μ idx : Nat} {a : (Nat × Nat × Nat × Nat)} (h : jlk jmtT (jow μ) idx = some a) : jmtP ((jow μ, idx), a) := jmtT_ok _ (jlk_mem h)
def jmt (o i : Nat) : Option (Nat × Nat × Nat × Nat) := jlk jmtT o i
theorem jmt_ok {μ idx mode μ' n κ : Nat} (h : jmt (jow μ) idx = some (mode, μ', n, κ)) : (Cond.methodLink (jy μ).cls idx (jy μ') ∈ jwords ∨ ∃ host : String, Cond.methodLinkNest (jy μ).cls idx (jy μ') host ∈ jwords) ∧ jMw μ' n ∧ (mode = 0 → jM0 μ' κ) ∧ (mode = 1 → jM1 μ') ∧ (mode = 2 → jM2 μ') := by
  rw [jow_of h (by decide +kernel)]
  exact jmt_own h
