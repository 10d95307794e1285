-- ===== terminate: the flag may fall first or last =====
def fi (A : Nat → Nat → Int32) (v : Int32) : Nat → Nat → Int32 := upA A 7 21 v
theorem up_sw {A : Nat → Nat → Int32} {κ k : Nat} {v w : Int32} (h : ¬ (κ = 7 ∧ k = 21)) : upA (fi A v) κ k w = fi (upA A κ k w) v := by
  funext κ' k'
  show (if κ' = κ ∧ k' = k then w else if κ' = 7 ∧ k' = 21 then v else A κ' k') = (if κ' = 7 ∧ k' = 21 then v else if κ' = κ ∧ k' = k then w else A κ' k')
  by_cases h1 : κ' = κ ∧ k' = k
  · rw [if_pos h1, if_neg (fun q => h ⟨h1.1.symm.trans q.1, h1.2.symm.trans q.2⟩), if_pos h1]
  · rw [if_neg h1, if_neg h1]
section
variable {A : Nat → Nat → Int32} {v : Int32}
theorem fi_fs : fs A (fi A v) := fs_up (fs_rf A) rfl
theorem fi_put {gi : Nat} {k a w : Int32} : putA (fi A v) gi k a w = fi (putA A gi k a w) v := by
  have e : ln (fi A v) = ln A := rfl
  have e2 : fi A v 7 24 = A 7 24 := rfl
  unfold putA
  rw [e, e2, up_sw (by omega), up_sw (by omega), up_sw (by omega), up_sw (by omega), up_sw (by omega), up_sw (by omega), up_sw (by omega)]
theorem fi_lat {gi : Nat} {tp : Int32} (k : Nat) : lat (fi A v) gi tp k = lat A gi tp k := lat_congr (A := A) (B := fi A v) (fun _ => rfl) gi tp k
theorem fi_pall {gi : Nat} {tp w : Int32} : ∀ k, pAllA (fi A v) gi tp w k = fi (pAllA A gi tp w k) v
  | 0 => rfl
  | k + 1 => by
    show putA (pAllA (fi A v) gi tp w k) gi (nI k) (lat (fi A v) gi tp k) w = _
    rw [fi_pall k, fi_lat, fi_put]
    rfl
theorem fi_putAll {gi : Nat} {tp w : Int32} : putAllA (fi A v) gi tp w = fi (putAllA A gi tp w) v := fi_pall _
theorem fi_putFrom {gi : Nat} {f w : Int32} : putFromA (fi A v) gi f w = fi (putFromA A gi f w) v := fi_putAll
theorem fi_turn {gi : Nat} {F : (Nat → Nat → Int32) → Nat → Nat → Int32} (hF : ∀ B, F (fi B v) = fi (F B) v) : turnA (fi A v) gi F = fi (turnA A gi F) v := by
  have eo : onA (fi A v) gi = fi (onA A gi) v := up_sw (by omega)
  unfold turnA
  by_cases h0 : gi = 0
  · rw [if_pos h0, if_pos h0]
  · rw [if_neg h0, if_neg h0]
    by_cases h1 : isOA A gi
    · rw [if_pos (c := isOA A gi) h1, if_pos (c := isOA (fi A v) gi) h1, eo, hF]
    · rw [if_neg (c := isOA A gi) h1, if_neg (c := isOA (fi A v) gi) h1, eo]
theorem fi_gF (kd lv : Int32) : gF (fi A v) kd lv = gF A kd lv := fi_fs.gf kd lv
theorem fi_over : overA (fi A v) = fi (overA A) v := by
  unfold overA
  rw [fi_gF]
  exact fi_turn (fun B => fi_putFrom)
theorem fi_page : pageA (fi A v) = fi (pageA A) v := by
  unfold pageA
  rw [up_sw (by omega), up_sw (by omega)]
  rfl
theorem fi_frs : ∀ n, frs (fi A v) n = fi (frs A n) v
  | 0 => rfl
  | n + 1 => by
    show upA (frs (fi A v) n) 73 n 0 = _
    rw [fi_frs n, up_sw (by omega)]
    rfl
theorem fi_begin : beginA (fi A v) = fi (beginA A) v := by
  unfold beginA
  have e : freshA (upA (pageA (fi A v)) 7 26 0) = fi (freshA (upA (pageA A) 7 26 0)) v := by
    rw [fi_page, up_sw (by omega)]
    exact fi_frs 21
  rw [e, fi_gF]
  exact fi_turn (fun B => fi_putFrom)
theorem fi_alone {kd : Int32} : aloneA (fi A v) kd = fi (aloneA A kd) v := by
  unfold aloneA
  rw [fi_gF]
  exact fi_turn (fun B => by rw [fi_page]; exact fi_putFrom)
theorem fi_room {gi : Nat} : roomA (fi A v) gi = fi (roomA A gi) v := by
  have et : topA (fi A v) gi = topA A gi := rfl
  have eo : ovf (fi A v) gi ↔ ovf A gi := by
    unfold ovf
    rw [et, fi_lat]
    exact Iff.rfl
  unfold roomA
  by_cases h : ovf A gi
  · rw [if_pos h, if_pos (eo.mpr h), fi_over, fi_begin]
  · rw [if_neg h, if_neg (fun q => h (eo.mp q))]
theorem fi_tell {gi : Nat} {w : Int32} : tellA (fi A v) gi w = fi (tellA A gi w) v := by
  unfold tellA
  rw [up_sw (by omega)]
  exact fi_putAll
theorem fi_body : bodyA (fi A v) = fi (bodyA A) v := by
  unfold bodyA
  rw [up_sw (by omega)]
  rfl
theorem fi_inBody {gi : Nat} {w : Int32} : inBodyA (fi A v) gi w = fi (inBodyA A gi w) v := by
  unfold inBodyA
  exact fi_turn (fun B => by rw [fi_room, fi_tell, fi_body])
theorem fi_fsD (gi : Nat) : ∀ k acc, fsD (fi A v) gi k acc = fsD A gi k acc
  | 0, _ => rfl
  | k + 1, acc => by
    show fsD (fi A v) gi k _ = fsD A gi k _
    rw [fi_fsD gi k]
    rfl
theorem fi_foot {T : Nat → Int64} {lv : Nat} : footA (fi A v) T lv = fi (footA A T lv) v := by
  have e : footV (fi A v) T lv = footV A T lv := by
    unfold footV
    rw [fi_gF]
    have : fsA (fi A v) (gF A 4 (nI lv)) = fsA A (gF A 4 (nI lv)) := fi_fsD _ _ _
    rw [this]
    rfl
  unfold footA
  rw [e, fi_gF]
  exact fi_inBody
theorem fi_footT {T : Nat → Int64} {lv : Nat} : footT (fi A v) T lv = footT A T lv := by
  unfold footT
  rw [rollT_fs fi_fs, rsT_fs fi_fs]
  rfl
theorem fi_ftS {T : Nat → Int64} {c : Nat} : ∀ n, ftS (fi A v) T c n = (fi (ftS A T c n).1 v, (ftS A T c n).2)
  | 0 => rfl
  | n + 1 => by
    show (footA (ftS (fi A v) T c n).1 (ftS (fi A v) T c n).2 (c - n), footT (ftS (fi A v) T c n).1 (ftS (fi A v) T c n).2 (c - n)) = _
    rw [fi_ftS n, fi_foot, fi_footT]
    rfl
end
theorem termA_is (A : Nat → Nat → Int32) (T : Nat → Int64) : termA A T = upA (aloneA (overA (ftS (cdA A) T (ncA A) (ncA A + 1)).1) 6) 7 21 0 := by
  show aloneA (overA (ftS (fi (cdA A) 0) T (ncA A) (ncA A + 1)).1) 6 = fi (aloneA (overA (ftS (cdA A) T (ncA A) (ncA A + 1)).1) 6) 0
  rw [fi_ftS]
  show aloneA (overA (fi (ftS (cdA A) T (ncA A) (ncA A + 1)).1 0)) 6 = _
  rw [fi_over, fi_alone]
theorem termT_is (A : Nat → Nat → Int32) (T : Nat → Int64) : termT A T = (ftS (cdA A) T (ncA A) (ncA A + 1)).2 := by
  show (ftS (fi (cdA A) 0) T (ncA A) (ncA A + 1)).2 = _
  rw [fi_ftS]
section
variable {sv : Nat → Value} {d t u : Nat} {Q : Option Value → jM → Prop} {g : jG} {I I' : tI} {J : tJ} {P : tP} {A B : Nat → Nat → Int32} {T T' : Nat → Int64} {ω : Wd} {tb ub st : Nat} {x y z : Int32}
theorem Rel.cd (hR : Rel sv ω t g I J P A T tb ub) : Rel sv ω t g I J P (cdA A) T tb ub := hR.scal hR.1 (fun _ _ => rfl) (fun κ j h1 h2 => by
  show upA A 7 0 0 κ j = _
  rw [upA_ap, if_neg (fun q => h1 q.1)]) (cdA_fr A).fs rfl
theorem Inv.cd (h : Inv ω I A st) : Inv ω I (cdA A) st := by
  obtain ⟨hp, hv, hS, hT, hn, hB, hRI⟩ := h
  exact ⟨(cdA_fr A).wp hp, (cdA_fr A).v0 hv, (cdA_fr A).fs.ws hS, hT, hn, hB, hRI⟩
theorem Rel.flag (hR : Rel sv ω t g I J P A T tb ub) {v : Int32} : Rel sv ω t g (ups I 6 9 (ω.1 0) v) J P (upA A 7 21 v) T tb ub := by
  obtain ⟨c1, c2, c3, c4, c5, c6, c7, c8, c9, c10, c11, c12, c13⟩ := hR.1
  refine hR.scal ⟨c1, c2, c3, c4, c5, c6, c7, c8, ?_, c10, c11, c12, c13⟩ (fun κ h => ups_o h) (fun κ j h1 h2 => ?_) (fs_up (fs_rf A) rfl) rfl
  · rw [ups_ap, if_pos ⟨rfl, rfl, rfl⟩]
    rfl
  · rw [upA_ap, if_neg (fun q => h1 q.1)]
theorem c_terminate (hR : Rel sv ω t g I J P A T tb ub) (hV : Inv ω I A st) (hst : st + 30 < 999999)
    (K5 : A 7 21 = 0 → Q (some (.int (-5))) (tv t u g I J P))
    (K0 : ¬ A 7 21 = 0 → A 7 22 = 0 → ∀ I', Rel sv ω t g I' J P (upA (cdA A) 7 21 0) T tb ub → Nx t u g I J P tb ub t u g I' J P tb ub → Inv ω I' (upA (cdA A) 7 21 0) st → Q (some (.int 0)) (tv t u g I' J P))
    (K : ¬ A 7 21 = 0 → ¬ A 7 22 = 0 → ∀ (t' u' : Nat) (g' : jG) (I' : tI) (J' : tJ) (P' : tP) (tb' ub' st' : Nat), Rel sv ω t' g' I' J' P' (termA A T) (termT A T) tb' ub' → Nx t u g I J P tb ub t' u' g' I' J' P' tb' ub' → Inv ω I' (termA A T) st' → st' ≤ st + 20 → Q (some (.int (termA A T 7 28))) (tv t' u' g' I' J' P')) :
    Ev sv (d + 13) (19, 0, [some (.ref (ω.1 0))], []) (tv t u g I J P) Q := by
  have c1 := hR.1.1
  have c4 := hR.1.2.2.2.1
  have c9 := hR.1.2.2.2.2.2.2.2.2.1
  have c12 := hR.1.2.2.2.2.2.2.2.2.2.2.2.1
  have p1 := hR.2.2.2.2.1.1
  have p3 := hR.2.2.2.2.1.2.2.1
  have hw := hR.2.2.2.2.2.2.2.1
  have hl := hR.2.2.2.2.2.2.2.2.1
  by_cases h21 : A 7 21 = 0
  · simp only [s_X4_terminate_0, s_X4_terminate_0n, s_X4_terminate_0z, s_X4_terminate_1, s_X4_terminate_4, s_X4_terminate_7, s_X4_terminate_9, tl_some, tl_none, cv_int, cv_ref, cv_null, cv_long, cat_rf, jcv_nil, jcat_cons, jv_none, jv_int, jv_ref, jv_null, jw_rf, rf_some, rf_none, bz_0, bz_1, i1_0, i0_0, if_true, if_false, ite_self, List.nil_append, List.cons_append, Nat.reduceAdd, Nat.reduceLeDiff, Nat.zero_le, Nat.le_refl, and_self, and_true, true_and, not_true_eq_false, not_false_eq_true, reduceIte, c1, c9, h21]
    exact K5 h21
  · obtain ⟨hp, hv, hS, hT, ⟨n, hn1, hn2, hn3, hn4⟩, hB1, hRI1⟩ := hV.cd
    have hn1 : A 7 22 = nI n := hn1
    have hn4 : ln A ≤ 330 * n := hn4 h21
    have hB1 := hB1 h21
    by_cases h22 : A 7 22 = 0
    · have h28 : A 7 28 = 0 := by
        have e : n = 0 := by
          have := hn1.symm.trans h22
          exact (nI_eq (a := n) (b := 0) (by omega) (by omega)).mp this
        have hl' : A 7 28 = nI (ln A) := hl
        have e2 : ln A = 0 := by omega
        rw [hl', e2]
        rfl
      have hlt : ¬ (0 : Int32) < 0 := by decide
      have r3 : ∀ v, ups I 6 9 (ω.1 0) v 3 1 (ω.1 5) = 0 := fun v => p3.trans h28
      simp only [s_X4_terminate_0, s_X4_terminate_0n, s_X4_terminate_0z, s_X4_terminate_1, s_X4_terminate_4, s_X4_terminate_7, s_X4_terminate_9, s_X4_terminate_10, s_X4_terminate_10n, s_X4_terminate_10z, s_X4_terminate_11, s_X4_terminate_14, s_X4_terminate_37, s_X4_terminate_37n, s_X4_terminate_37z, s_X4_terminate_38, s_X4_terminate_39, s_X4_terminate_42, s_X4_terminate_42n, s_X4_terminate_42z, s_X4_terminate_43, s_X4_terminate_46, s_X4_terminate_49, tl_some, tl_none, cv_int, cv_ref, cv_null, cv_long, cat_rf, jcv_nil, jcat_cons, jv_none, jv_int, jv_ref, jv_null, jw_rf, rf_some, rf_none, bz_0, bz_1, i1_0, i0_0, if_true, if_false, ite_self, List.nil_append, List.cons_append, Nat.reduceAdd, Nat.reduceLeDiff, Nat.zero_le, Nat.le_refl, and_self, and_true, true_and, not_true_eq_false, not_false_eq_true, reduceIte, c1, c4, p1, c9, h21, c12, h22, hlt, r3]
      refine K0 h21 h22 _ hR.cd.flag (Nx_I (fun κ hκ => ups_o (by omega))) ⟨(fr.fs (cdA_fr A)).wp (fun _ => rfl) hV.1 |> fun h => (fs_up (fs_rf _) rfl : fs (cdA A) (upA (cdA A) 7 21 0)).wp (fun _ => rfl) h, hv, hS, hT, ⟨n, hn1, hn2, hn3, fun q => absurd rfl q⟩, fun q => absurd rfl q, fun q => absurd rfl q⟩
    · have hlt : (0 : Int32) < A 7 22 := by
        rw [hn1]
        refine nI_lt (a := 0) ?_ (by omega)
        by_cases e : n = 0
        · rw [e] at hn1; exact absurd hn1 h22
        · omega
      have i0 : (0 : Int32) = nI 0 := rfl
      have hB : Bd ω I (cdA A) st := ⟨hB1.1, hB1.2, hT⟩
      have S : Ev sv (d + 13) (19, 0, [some (.ref (ω.1 0))], []) (tv t u g I J P) Q ↔ Ev sv (d + 12) (48, 0, [some (.ref (ω.1 0)), some (.int 0), none, none, none], []) (tv t u g I J P) (fun r M1 => Ev sv (d + 12 + 1) (19, 22, [some (.ref (ω.1 0))], r.toList ++ []) M1 Q) := by
        simp only [s_X4_terminate_0, s_X4_terminate_0n, s_X4_terminate_0z, s_X4_terminate_1, s_X4_terminate_4, s_X4_terminate_7, s_X4_terminate_9, s_X4_terminate_10, s_X4_terminate_10n, s_X4_terminate_10z, s_X4_terminate_11, s_X4_terminate_14, s_X4_terminate_17, s_X4_terminate_17n, s_X4_terminate_17z, s_X4_terminate_18, s_X4_terminate_19, tl_some, tl_none, cv_int, cv_ref, cv_null, cv_long, cat_rf, jcv_nil, jcat_cons, jv_none, jv_int, jv_ref, jv_null, jw_rf, rf_some, rf_none, bz_0, bz_1, i1_0, i0_0, if_true, if_false, ite_self, List.nil_append, List.cons_append, Nat.reduceAdd, Nat.reduceLeDiff, Nat.zero_le, Nat.le_refl, and_self, and_true, true_and, not_true_eq_false, not_false_eq_true, reduceIte, c1, c9, h21, c12, hlt]
      refine S.mpr ?_
      rw [i0]
      have hRc := hR.cd
      have hwc := (cdA_fr A).wf hw
      have hlc : LnA (cdA A) := hl
      have elc : ln (cdA A) = ln A := rfl
      refine c_foots (d := d) (lo := 0) (by omega) hRc hp hv hS hB (by omega) (by omega) (fun t2 u2 g2 I2 J2 P2 tb2 ub2 st2 q1 q2 q3 q4 q5 => ?_)
      have enc : ncA (cdA A) + 1 - 0 = ncA A + 1 := rfl
      have enc2 : ncA (cdA A) = ncA A := rfl
      rw [enc, enc2] at q1 q3
      have h5 := hw.2.2.1.2
      have hff := ftS_fr (cdA A) T (ncA A) (ncA A + 1)
      have huf := ftS_up (T := T) (c := ncA A) hwc hlc (ncA A + 1) (by omega)
      have huf2 := huf.2.2
      have hTA := termA_is A T
      have hTT := termT_is A T
      generalize hF : ftS (cdA A) T (ncA A) (ncA A + 1) = F at q1 q3 hff huf huf2 hTA hTT
      have c1b := q1.1.1
      simp only [s_X4_terminate_22, s_X4_terminate_22n, s_X4_terminate_22z, s_X4_terminate_23, tl_some, tl_none, cv_int, cv_ref, cv_null, cv_long, cat_rf, jcv_nil, jcat_cons, jv_none, jv_int, jv_ref, jv_null, jw_rf, rf_some, rf_none, bz_0, bz_1, i1_0, i0_0, if_true, if_false, ite_self, List.nil_append, List.cons_append, Nat.reduceAdd, Nat.reduceLeDiff, Nat.zero_le, Nat.le_refl, and_self, and_true, true_and, not_true_eq_false, not_false_eq_true, reduceIte, c1b]
      refine c_endPage (d := d + 2) q1 (hff.uq hp) (by omega) (fun t3 u3 g3 I3 J3 P3 tb3 ub3 z1 z2 z3 => ?_)
      have c1c := z1.1.1
      have hfo := overA_fr F.1
      have huo := overA_up q1.2.2.2.2.2.2.2.1 huf.1 (by omega)
      have huo2 := huo.2.2
      have hgo := fun (Q : Option Value → jM → Prop) => c_groupOf (Q := Q) (sv := sv) (d := d + 9) (u := u3) (kd := 6) (lv := 0) z1 (hfo.uq (hff.wp hp)) (by decide)
      simp only [s_X4_terminate_26, s_X4_terminate_26n, s_X4_terminate_26z, s_X4_terminate_27, s_X4_terminate_27n, s_X4_terminate_27z, s_X4_terminate_28, s_X4_terminate_30, s_X4_terminate_31, s_X4_terminate_34, tl_some, tl_none, cv_int, cv_ref, cv_null, cv_long, cat_rf, jcv_nil, jcat_cons, jv_none, jv_int, jv_ref, jv_null, jw_rf, rf_some, rf_none, bz_0, bz_1, i1_0, i0_0, if_true, if_false, ite_self, List.nil_append, List.cons_append, Nat.reduceAdd, Nat.reduceLeDiff, Nat.zero_le, Nat.le_refl, and_self, and_true, true_and, not_true_eq_false, not_false_eq_true, reduceIte, c1c, hgo, cat_rf]
      refine c_alone (d := d + 3) z1 (Or.inr rfl) (by omega) (fun t4 u4 g4 I4 J4 P4 tb4 ub4 w1 w2 w3 w4 => ?_)
      have c1d := w1.1.1
      have c4d := w1.1.2.2.2.1
      have p1d := w1.2.2.2.2.1.1
      have p3d := w1.2.2.2.2.1.2.2.1
      have r3 : ∀ v, ups I4 6 9 (ω.1 0) v 3 1 (ω.1 5) = aloneA (overA F.1) 6 7 28 := fun v => p3d
      simp only [s_X4_terminate_37, s_X4_terminate_37n, s_X4_terminate_37z, s_X4_terminate_38, s_X4_terminate_39, s_X4_terminate_42, s_X4_terminate_42n, s_X4_terminate_42z, s_X4_terminate_43, s_X4_terminate_46, s_X4_terminate_49, tl_some, tl_none, cv_int, cv_ref, cv_null, cv_long, cat_rf, jcv_nil, jcat_cons, jv_none, jv_int, jv_ref, jv_null, jw_rf, rf_some, rf_none, bz_0, bz_1, i1_0, i0_0, if_true, if_false, ite_self, List.nil_append, List.cons_append, Nat.reduceAdd, Nat.reduceLeDiff, Nat.zero_le, Nat.le_refl, and_self, and_true, true_and, not_true_eq_false, not_false_eq_true, reduceIte, c1d, c4d, p1d, r3]
      have hfa := aloneA_fr (overA F.1) 6
      have hua := aloneA_up (kd := 6) z1.2.2.2.2.2.2.2.1 huo.1 (by omega)
      have hua2 := hua.2.2
      have hfall : fr (cdA A) (aloneA (overA F.1) 6) := (hff.tr hfo).tr hfa
      rw [hTA, hTT] at K
      have hN4 : Nx t4 u4 g4 I4 J4 P4 tb4 ub4 t4 u4 g4 (ups I4 6 9 (ω.1 0) 0) J4 P4 tb4 ub4 := Nx_I (fun κ hκ => ups_o (by omega))
      refine K h21 h22 t4 u4 g4 _ J4 P4 tb4 ub4 st2 w1.flag (((q2.tr z2).tr w2).tr hN4) ⟨(fs_up (fs_rf _) rfl : fs (aloneA (overA F.1) 6) (upA (aloneA (overA F.1) 6) 7 21 0)).wp (fun _ => rfl) (hfall.wp hp), hfall.v0 hv, (hfall.fs.tr (fs_up (fs_rf _) rfl)).ws hS, ?_, ⟨n, ?_, hn2, ?_, fun q => absurd rfl q⟩, fun q => absurd rfl q, fun q => absurd rfl q⟩ (by omega)
      · exact ((q3.2.2.kp z3.2.1 z3.2.2 hfo.ng).kp w3 w4 hfa.ng).kp rfl (fun _ => rfl) rfl
      · show aloneA (overA F.1) 6 7 22 = _
        rw [hfall 7 22 rfl]
        exact hn1
      · show ln (aloneA (overA F.1) 6) ≤ _
        omega
end
