/-! ask: the choice, and both -/
def CS (w : AW) (L : List Nat) (s : Int32 × Nat) : Prop := CW w L ∧ fI w 27 3 = s.1 ∧ fI w 27 4 = nI s.2
theorem lf_max {L : List Nat} {m k : Nat} (hL : L.length ≤ 336) : (if nI (tl m k L) < nI (L.length - tl m k L) then nI (L.length - tl m k L) else nI (tl m k L)) = nI (lf L m k) := by
  have := tl_le (m := m) (k := k) L
  unfold lf
  simp only [ltN (show tl m k L < 1000 by omega) (show L.length - tl m k L < 1000 by omega)]
  by_cases e : tl m k L < L.length - tl m k L
  · rw [if_pos e, if_pos e]
  · rw [if_neg e, if_neg e]
theorem x_chK {X : Scr} {L : List Nat} {m : Nat} (lg : LG L) : ∀ (n k : Nat), k + n = 8 → ∀ (w : AW) (s : Int32 × Nat) (v : Value), isSec v = false → s.2 ≤ L.length + 1 → CS w L s → (∀ k, k < 8 → aget w 29 k = nI (tl m k L)) → ∃ (w' : AW) (v' : Value), isSec v' = false ∧ Z X 75 31 [.ref 27, .int (nI m), .int (nI k), v] [] w = Z X 75 87 [.ref 27, .int (nI m), .int (nI 8), v'] [] w' ∧ CS w' L (foK L m n k s) ∧ same w w' := by
  intro n
  induction n with
  | zero =>
    intro k hk w s v hv hs cs ht
    have hk : k = 8 := hk
    subst hk
    have e : nI 8 ≥ 8 := by decide
    refine ⟨w, v, hv, ?_, cs, same_rf⟩
    rw [z75_31]
    simp only [z75_32, z75_34, Option.bind_some, Option.toList_some, Option.toList_none, List.cons_append, List.nil_append, sc_i, sc_r, sc_l, sc_u, sc_s, List.length_nil, List.length_cons, Nat.reduceAdd, Nat.reduceLeDiff, Nat.zero_le, le4_0, le4_1, le4_2, le4_3, rz0, rz1, rzt, eq_self, tI_0, tI_n0, if_true, if_false, ne_eq, not_true_eq_false, not_false_eq_true, and_self, Bool.false_eq_true, e]
  | succ n ih =>
    intro k hk w s v hv hs cs ht
    obtain ⟨⟨h0, k1, k2⟩, k3, k4⟩ := cs
    have hl := lg.1
    have hk8 : k < 8 := by omega
    have htk := ht k hk8
    have htl := tl_le (m := m) (k := k) L
    have hlf := lf_le (L := L) (m := m) (k := k)
    have es : nI L.length - nI (tl m k L) = nI (L.length - tl m k L) := pk_sub htl
    have hq : (10 : Int32) * nI m + nI k = nI (10 * m + k) := by
      rw [show (10 : Int32) = nI 10 from rfl, pk_mul, nI_add]
    by_cases e : lf L m k < s.2
    · have e2 : ¬ s.2 ≤ lf L m k := by omega
      have hst : stK L m k s = (nI (10 * m + k), lf L m k) := by unfold stK; rw [if_pos e]
      obtain ⟨w', v', hv', r1, r2, r3⟩ := ih (k + 1) (by omega) (fset (fset w 27 3 (.int (nI (10 * m + k)))) 27 4 (.int (nI (lf L m k)))) (stK L m k s) (.int (nI (lf L m k))) sc_i (stK_b hs) (by
        rw [hst]
        refine ⟨⟨ok_f (ok_f h0 (by decide)) (by decide), ?_, ?_⟩, ?_, ?_⟩
        · simp only [fo_f, fo_a, fo_j, co_f, co_a, co_j, ao_f, ao_a, ao_j, zo_f, zo_a, zo_j, jo_f, jo_a, jo_j, al_f, al_a, al_j, fg_a, fg_j, ag_f, ag_j, jg_f, jg_a, fk_f, fk_a, fk_j, fi_a, fi_j, ag_s, ag_z, ag_n, fi_s, fi_n, fg_s, fg_n, jg_s, jg_n, Nat.reduceEqDiff, not_false_eq_true, and_false, false_and, true_and, and_true, and_self, k1]
        · intro i hi; simp only [fo_f, fo_a, fo_j, co_f, co_a, co_j, ao_f, ao_a, ao_j, zo_f, zo_a, zo_j, jo_f, jo_a, jo_j, al_f, al_a, al_j, fg_a, fg_j, ag_f, ag_j, jg_f, jg_a, fk_f, fk_a, fk_j, fi_a, fi_j, ag_s, ag_z, ag_n, fi_s, fi_n, fg_s, fg_n, jg_s, jg_n, Nat.reduceEqDiff, not_false_eq_true, and_false, false_and, true_and, and_true, and_self]; exact k2 i hi
        · simp only [fo_f, fo_a, fo_j, co_f, co_a, co_j, ao_f, ao_a, ao_j, zo_f, zo_a, zo_j, jo_f, jo_a, jo_j, al_f, al_a, al_j, fg_a, fg_j, ag_f, ag_j, jg_f, jg_a, fk_f, fk_a, fk_j, fi_a, fi_j, ag_s, ag_z, ag_n, fi_s, fi_n, fg_s, fg_n, jg_s, jg_n, Nat.reduceEqDiff, not_false_eq_true, and_false, false_and, true_and, and_true, and_self, oc27 h0, of27_0 h0, og27_0 h0, of27_1 h0, og27_1 h0, of27_2 h0, og27_2 h0, ok27_2 h0, of27_3 h0, og27_3 h0, ok27_3 h0, of27_4 h0, og27_4 h0, ok27_4 h0]
        · simp only [fo_f, fo_a, fo_j, co_f, co_a, co_j, ao_f, ao_a, ao_j, zo_f, zo_a, zo_j, jo_f, jo_a, jo_j, al_f, al_a, al_j, fg_a, fg_j, ag_f, ag_j, jg_f, jg_a, fk_f, fk_a, fk_j, fi_a, fi_j, ag_s, ag_z, ag_n, fi_s, fi_n, fg_s, fg_n, jg_s, jg_n, Nat.reduceEqDiff, not_false_eq_true, and_false, false_and, true_and, and_true, and_self, oc27 h0, of27_0 h0, og27_0 h0, of27_1 h0, og27_1 h0, of27_2 h0, og27_2 h0, ok27_2 h0, of27_3 h0, og27_3 h0, ok27_3 h0, of27_4 h0, og27_4 h0, ok27_4 h0]) (fun j hj => by simp only [fo_f, fo_a, fo_j, co_f, co_a, co_j, ao_f, ao_a, ao_j, zo_f, zo_a, zo_j, jo_f, jo_a, jo_j, al_f, al_a, al_j, fg_a, fg_j, ag_f, ag_j, jg_f, jg_a, fk_f, fk_a, fk_j, fi_a, fi_j, ag_s, ag_z, ag_n, fi_s, fi_n, fg_s, fg_n, jg_s, jg_n, Nat.reduceEqDiff, not_false_eq_true, and_false, false_and, true_and, and_true, and_self]; exact ht j hj)
      refine ⟨w', v', hv', ?_, r2, same_tr (same_tr (same_f (by decide)) (same_f (by decide))) r3⟩
      rw [← r1, z75_31]
      simp only [z75_0, z75_1, z75_3, z75_6, z75_7, z75_8, z75_11, z75_12, z75_13, z75_16, z75_17, z75_19, z75_21, z75_24, z75_25, z75_26, z75_29, z75_30, z75_32, z75_34, z75_37, z75_38, z75_41, z75_42, z75_43, z75_44, z75_47, z75_48, z75_51, z75_52, z75_53, z75_54, z75_57, z75_58, z75_59, z75_60, z75_63, z75_66, z75_67, z75_69, z75_70, z75_71, z75_72, z75_73, z75_76, z75_77, z75_78, z75_81, z75_84, z75_90, z75_93, Option.bind_some, Option.toList_some, Option.toList_none, List.cons_append, List.nil_append, sc_i, sc_r, sc_l, sc_u, sc_s, List.length_nil, List.length_cons, Nat.reduceAdd, Nat.reduceLeDiff, Nat.zero_le, le4_0, le4_1, le4_2, le4_3, rz0, rz1, rzt, eq_self, fo_f, fo_a, fo_j, co_f, co_a, co_j, ao_f, ao_a, ao_j, zo_f, zo_a, zo_j, jo_f, jo_a, jo_j, al_f, al_a, al_j, fg_a, fg_j, ag_f, ag_j, jg_f, jg_a, fk_f, fk_a, fk_j, fi_a, fi_j, tI_0, tI_n0, if_true, if_false, ne_eq, not_true_eq_false, not_false_eq_true, and_self, Bool.false_eq_true, nI_nge8 hk8, oc27 h0, of27_0 h0, og27_0 h0, of27_1 h0, og27_1 h0, of27_2 h0, og27_2 h0, ok27_2 h0, of27_3 h0, og27_3 h0, ok27_3 h0, of27_4 h0, og27_4 h0, ok27_4 h0, oa29 h0, ol29 h0, b8 hk8, c8 hk8, htk, k1, es, lf_max hl, hv, k4, geN (show lf L m k < 1000 by omega) (show s.2 < 1000 by omega), e2, hq, nI_1]
    · have e2 : s.2 ≤ lf L m k := by omega
      have hst : stK L m k s = s := by unfold stK; rw [if_neg e]
      obtain ⟨w', v', hv', r1, r2, r3⟩ := ih (k + 1) (by omega) w (stK L m k s) (.int (nI (lf L m k))) sc_i (stK_b hs) (by rw [hst]; exact ⟨⟨h0, k1, k2⟩, k3, k4⟩) ht
      refine ⟨w', v', hv', ?_, r2, r3⟩
      rw [← r1, z75_31]
      simp only [z75_0, z75_1, z75_3, z75_6, z75_7, z75_8, z75_11, z75_12, z75_13, z75_16, z75_17, z75_19, z75_21, z75_24, z75_25, z75_26, z75_29, z75_30, z75_32, z75_34, z75_37, z75_38, z75_41, z75_42, z75_43, z75_44, z75_47, z75_48, z75_51, z75_52, z75_53, z75_54, z75_57, z75_58, z75_59, z75_60, z75_63, z75_66, z75_67, z75_69, z75_70, z75_71, z75_72, z75_73, z75_76, z75_77, z75_78, z75_81, z75_84, z75_90, z75_93, Option.bind_some, Option.toList_some, Option.toList_none, List.cons_append, List.nil_append, sc_i, sc_r, sc_l, sc_u, sc_s, List.length_nil, List.length_cons, Nat.reduceAdd, Nat.reduceLeDiff, Nat.zero_le, le4_0, le4_1, le4_2, le4_3, rz0, rz1, rzt, eq_self, fo_f, fo_a, fo_j, co_f, co_a, co_j, ao_f, ao_a, ao_j, zo_f, zo_a, zo_j, jo_f, jo_a, jo_j, al_f, al_a, al_j, fg_a, fg_j, ag_f, ag_j, jg_f, jg_a, fk_f, fk_a, fk_j, fi_a, fi_j, tI_0, tI_n0, if_true, if_false, ne_eq, not_true_eq_false, not_false_eq_true, and_self, Bool.false_eq_true, nI_nge8 hk8, oc27 h0, of27_0 h0, og27_0 h0, of27_1 h0, og27_1 h0, of27_2 h0, og27_2 h0, ok27_2 h0, of27_3 h0, og27_3 h0, ok27_3 h0, of27_4 h0, og27_4 h0, ok27_4 h0, oa29 h0, ol29 h0, b8 hk8, c8 hk8, htk, k1, es, lf_max hl, hv, k4, geN (show lf L m k < 1000 by omega) (show s.2 < 1000 by omega), e2, nI_1]
theorem x_chM {X : Scr} {L : List Nat} (lg : LG L) : ∀ (n m : Nat), m + n = 61 → ∀ (w : AW) (s : Int32 × Nat) (u v : Value), isSec u = false → isSec v = false → s.2 ≤ L.length + 1 → CS w L s → ∃ (w' : AW), Z X 75 18 [.ref 27, .int (nI m), u, v] [] w = some (none, w') ∧ CS w' L (foM L n m s) ∧ same w w' := by
  intro n
  induction n with
  | zero =>
    intro m hm w s u v hu hv hs cs
    have hm : m = 61 := hm
    subst hm
    have e : nI 61 > 60 := by decide
    refine ⟨w, ?_, cs, same_rf⟩
    rw [z75_18]
    simp only [z75_19, z75_21, z75_93, Option.bind_some, Option.toList_some, Option.toList_none, List.cons_append, List.nil_append, sc_i, sc_r, sc_l, sc_u, sc_s, List.length_nil, List.length_cons, Nat.reduceAdd, Nat.reduceLeDiff, Nat.zero_le, le4_0, le4_1, le4_2, le4_3, rz0, rz1, rzt, eq_self, tI_0, tI_n0, if_true, if_false, ne_eq, not_true_eq_false, not_false_eq_true, and_self, Bool.false_eq_true, e]
  | succ n ih =>
    intro m hm w s u v hu hv hs cs
    have h0 := cs.1.1
    have e : (nI m > 60) = (60 < m) := gtN (b := 60) (by omega) (by decide)
    have e' : ¬ 60 < m := by omega
    obtain ⟨g, q1, q2⟩ := x_cntH (X := X) cs.1 lg (show m ≤ 60 by omega)
    obtain ⟨w1, v1, hv1, r1, r2, r3⟩ := x_chK (X := X) (m := m) lg 8 0 rfl (aset w 29 g) s v hv hs (by
      obtain ⟨⟨h0, k1, k2⟩, k3, k4⟩ := cs
      refine ⟨⟨ok_a h0, ?_, ?_⟩, ?_, ?_⟩
      · simp only [fo_f, fo_a, fo_j, co_f, co_a, co_j, ao_f, ao_a, ao_j, zo_f, zo_a, zo_j, jo_f, jo_a, jo_j, al_f, al_a, al_j, fg_a, fg_j, ag_f, ag_j, jg_f, jg_a, fk_f, fk_a, fk_j, fi_a, fi_j, k1]
      · intro i hi; simp only [fo_f, fo_a, fo_j, co_f, co_a, co_j, ao_f, ao_a, ao_j, zo_f, zo_a, zo_j, jo_f, jo_a, jo_j, al_f, al_a, al_j, fg_a, fg_j, ag_f, ag_j, jg_f, jg_a, fk_f, fk_a, fk_j, fi_a, fi_j, ag_s, ag_z, ag_n, fi_s, fi_n, fg_s, fg_n, jg_s, jg_n, Nat.reduceEqDiff, not_false_eq_true, and_false, false_and, true_and, and_true, and_self]; exact k2 i hi
      · simp only [fo_f, fo_a, fo_j, co_f, co_a, co_j, ao_f, ao_a, ao_j, zo_f, zo_a, zo_j, jo_f, jo_a, jo_j, al_f, al_a, al_j, fg_a, fg_j, ag_f, ag_j, jg_f, jg_a, fk_f, fk_a, fk_j, fi_a, fi_j, k3]
      · simp only [fo_f, fo_a, fo_j, co_f, co_a, co_j, ao_f, ao_a, ao_j, zo_f, zo_a, zo_j, jo_f, jo_a, jo_j, al_f, al_a, al_j, fg_a, fg_j, ag_f, ag_j, jg_f, jg_a, fk_f, fk_a, fk_j, fi_a, fi_j, k4]) (fun k hk => by rw [ag_s (oa29 h0)]; exact q2 k hk)
    obtain ⟨w2, t1, t2, t3⟩ := ih (m + 1) (by omega) w1 (foK L m 8 0 s) (.int (nI 8)) v1 sc_i hv1 (foK_b 8 0 s hs) r2
    refine ⟨w2, ?_, t2, same_tr (same_tr (same_a (by decide)) r3) t3⟩
    have z0 : nI 0 = 0 := rfl
    rw [z0] at r1
    rw [← t1, z75_18]
    simp only [z75_19, z75_21, z75_24, z75_25, z75_26, z75_29, z75_30, z75_87, z75_90, Option.bind_some, Option.toList_some, Option.toList_none, List.cons_append, List.nil_append, sc_i, sc_r, sc_l, sc_u, sc_s, List.length_nil, List.length_cons, Nat.reduceAdd, Nat.reduceLeDiff, Nat.zero_le, le4_0, le4_1, le4_2, le4_3, rz0, rz1, rzt, eq_self, tI_0, tI_n0, if_true, if_false, ne_eq, not_true_eq_false, not_false_eq_true, and_self, Bool.false_eq_true, e, e', oc27 h0, of27_0 h0, og27_0 h0, of27_1 h0, og27_1 h0, of27_2 h0, og27_2 h0, ok27_2 h0, of27_3 h0, og27_3 h0, ok27_3 h0, of27_4 h0, og27_4 h0, ok27_4 h0, q1, hu, r1, nI_1]
theorem x_choose {X : Scr} {w : AW} {L : List Nat} (lg : LG L) (cw : CW w L) : ∃ (w' : AW), Z X 75 0 [.ref 27, uns, uns, uns] [] w = some (none, w') ∧ CS w' L (foM L 61 0 (-6, L.length + 1)) ∧ same w w' := by
  obtain ⟨h0, k1, k2⟩ := id cw
  obtain ⟨w1, q1, q2, q3⟩ := x_chM (X := X) lg 61 0 rfl (fset (fset w 27 3 (.int (-6))) 27 4 (.int (nI (L.length + 1)))) (-6, L.length + 1) uns uns sc_u sc_u (Nat.le_refl _) (by
    refine ⟨⟨ok_f (ok_f h0 (by decide)) (by decide), ?_, ?_⟩, ?_, ?_⟩
    · simp only [fo_f, fo_a, fo_j, co_f, co_a, co_j, ao_f, ao_a, ao_j, zo_f, zo_a, zo_j, jo_f, jo_a, jo_j, al_f, al_a, al_j, fg_a, fg_j, ag_f, ag_j, jg_f, jg_a, fk_f, fk_a, fk_j, fi_a, fi_j, ag_s, ag_z, ag_n, fi_s, fi_n, fg_s, fg_n, jg_s, jg_n, Nat.reduceEqDiff, not_false_eq_true, and_false, false_and, true_and, and_true, and_self, k1]
    · intro i hi; simp only [fo_f, fo_a, fo_j, co_f, co_a, co_j, ao_f, ao_a, ao_j, zo_f, zo_a, zo_j, jo_f, jo_a, jo_j, al_f, al_a, al_j, fg_a, fg_j, ag_f, ag_j, jg_f, jg_a, fk_f, fk_a, fk_j, fi_a, fi_j, ag_s, ag_z, ag_n, fi_s, fi_n, fg_s, fg_n, jg_s, jg_n, Nat.reduceEqDiff, not_false_eq_true, and_false, false_and, true_and, and_true, and_self]; exact k2 i hi
    · simp only [fo_f, fo_a, fo_j, co_f, co_a, co_j, ao_f, ao_a, ao_j, zo_f, zo_a, zo_j, jo_f, jo_a, jo_j, al_f, al_a, al_j, fg_a, fg_j, ag_f, ag_j, jg_f, jg_a, fk_f, fk_a, fk_j, fi_a, fi_j, ag_s, ag_z, ag_n, fi_s, fi_n, fg_s, fg_n, jg_s, jg_n, Nat.reduceEqDiff, not_false_eq_true, and_false, false_and, true_and, and_true, and_self, oc27 h0, of27_0 h0, og27_0 h0, of27_1 h0, og27_1 h0, of27_2 h0, og27_2 h0, ok27_2 h0, of27_3 h0, og27_3 h0, ok27_3 h0, of27_4 h0, og27_4 h0, ok27_4 h0]
    · simp only [fo_f, fo_a, fo_j, co_f, co_a, co_j, ao_f, ao_a, ao_j, zo_f, zo_a, zo_j, jo_f, jo_a, jo_j, al_f, al_a, al_j, fg_a, fg_j, ag_f, ag_j, jg_f, jg_a, fk_f, fk_a, fk_j, fi_a, fi_j, ag_s, ag_z, ag_n, fi_s, fi_n, fg_s, fg_n, jg_s, jg_n, Nat.reduceEqDiff, not_false_eq_true, and_false, false_and, true_and, and_true, and_self, oc27 h0, of27_0 h0, og27_0 h0, of27_1 h0, og27_1 h0, of27_2 h0, og27_2 h0, ok27_2 h0, of27_3 h0, og27_3 h0, ok27_3 h0, of27_4 h0, og27_4 h0, ok27_4 h0])
  refine ⟨w1, ?_, q2, same_tr (same_tr (same_f (by decide)) (same_f (by decide))) q3⟩
  have z0 : nI 0 = 0 := rfl
  rw [z0] at q1
  simp only [z75_0, z75_1, z75_3, z75_6, z75_7, z75_8, z75_11, z75_12, z75_13, z75_16, z75_17, z75_19, z75_21, z75_24, z75_25, z75_26, z75_29, z75_30, z75_32, z75_34, z75_37, z75_38, z75_41, z75_42, z75_43, z75_44, z75_47, z75_48, z75_51, z75_52, z75_53, z75_54, z75_57, z75_58, z75_59, z75_60, z75_63, z75_66, z75_67, z75_69, z75_70, z75_71, z75_72, z75_73, z75_76, z75_77, z75_78, z75_81, z75_84, z75_87, z75_90, z75_93, Option.bind_some, Option.toList_some, Option.toList_none, List.cons_append, List.nil_append, sc_i, sc_r, sc_l, sc_u, sc_s, List.length_nil, List.length_cons, Nat.reduceAdd, Nat.reduceLeDiff, Nat.zero_le, le4_0, le4_1, le4_2, le4_3, rz0, rz1, rzt, eq_self, fo_f, fo_a, fo_j, co_f, co_a, co_j, ao_f, ao_a, ao_j, zo_f, zo_a, zo_j, jo_f, jo_a, jo_j, al_f, al_a, al_j, fg_a, fg_j, ag_f, ag_j, jg_f, jg_a, fk_f, fk_a, fk_j, fi_a, fi_j, ag_s, ag_z, ag_n, fi_s, fi_n, fg_s, fg_n, jg_s, jg_n, Nat.reduceEqDiff, not_false_eq_true, and_false, false_and, true_and, and_true, and_self, oc27 h0, of27_0 h0, og27_0 h0, of27_1 h0, og27_1 h0, of27_2 h0, og27_2 h0, ok27_2 h0, of27_3 h0, og27_3 h0, ok27_3 h0, of27_4 h0, og27_4 h0, ok27_4 h0, k1, nI_1, q1]
/-! the reference -/
theorem x_mzL {X : Scr} {w : AW} {v1 v2 v3 v4 v5 v7 : Value} (h0 : OK w) : ∀ (n j : Nat), j + n = 8 → ∀ g : Nat → Int32, (∀ i, i < j → g i = 0) → ∃ g', Z X 152 44 [.ref 64, v1, v2, v3, v4, v5, .int (nI j), v7] [] (aset w 85 g) = Z X 152 65 [.ref 64, v1, v2, v3, v4, v5, .int (nI 8), v7] [] (aset w 85 g') ∧ ∀ i, i < 8 → g' i = 0 := by
  intro n
  induction n with
  | zero =>
    intro j hj g hg
    have hj : j = 8 := hj
    subst hj
    have e : nI 8 ≥ 8 := by decide
    refine ⟨g, ?_, hg⟩
    rw [z152_44]
    simp only [z152_46, z152_48, Option.bind_some, Option.toList_some, Option.toList_none, List.cons_append, List.nil_append, sc_i, sc_r, sc_l, sc_u, sc_s, List.length_nil, List.length_cons, Nat.reduceAdd, Nat.reduceLeDiff, Nat.zero_le, le4_0, le4_1, le4_2, le4_3, rz0, rz1, rzt, eq_self, tI_0, tI_n0, if_true, if_false, ne_eq, not_true_eq_false, not_false_eq_true, and_self, Bool.false_eq_true, e]
  | succ n ih =>
    intro j hj g hg
    have hj8 : j < 8 := by omega
    obtain ⟨g', r1, r2⟩ := ih (j + 1) (by omega) (upd g j 0) (fun i hi => by
      rw [updI]
      by_cases q : i = j
      · rw [if_pos q]
      · rw [if_neg q]; exact hg i (by omega))
    refine ⟨g', ?_, r2⟩
    rw [← r1, z152_44]
    simp only [z152_46, z152_48, z152_51, z152_52, z152_55, z152_57, z152_58, z152_59, z152_62, Option.bind_some, Option.toList_some, Option.toList_none, List.cons_append, List.nil_append, sc_i, sc_r, sc_l, sc_u, sc_s, List.length_nil, List.length_cons, Nat.reduceAdd, Nat.reduceLeDiff, Nat.zero_le, le4_0, le4_1, le4_2, le4_3, rz0, rz1, rzt, eq_self, fo_f, fo_a, fo_j, co_f, co_a, co_j, ao_f, ao_a, ao_j, zo_f, zo_a, zo_j, jo_f, jo_a, jo_j, al_f, al_a, al_j, fg_a, fg_j, ag_f, ag_j, jg_f, jg_a, fk_f, fk_a, fk_j, fi_a, fi_j, ag_s, ag_z, ag_n, fi_s, fi_n, fg_s, fg_n, jg_s, jg_n, Nat.reduceEqDiff, not_false_eq_true, and_false, false_and, true_and, and_true, and_self, tI_0, tI_n0, if_true, if_false, ne_eq, not_true_eq_false, not_false_eq_true, and_self, Bool.false_eq_true, nI_nge8 hj8, oc64 h0, of64_0 h0, og64_0 h0, ok64_0 h0, of64_1 h0, og64_1 h0, of64_2 h0, og64_2 h0, of64_3 h0, og64_3 h0, of64_4 h0, og64_4 h0, of64_5 h0, og64_5 h0, ok64_5 h0, of64_6 h0, og64_6 h0, ok64_6 h0, of64_7 h0, og64_7 h0, of64_8 h0, og64_8 h0, of64_9 h0, og64_9 h0, of64_10 h0, og64_10 h0, of64_11 h0, og64_11 h0, of64_12 h0, og64_12 h0, of64_13 h0, og64_13 h0, ok64_13 h0, of64_14 h0, og64_14 h0, of64_15 h0, og64_15 h0, ok64_15 h0, of64_16 h0, og64_16 h0, of64_17 h0, og64_17 h0, of64_18 h0, og64_18 h0, of64_19 h0, og64_19 h0, of64_20 h0, og64_20 h0, of64_21 h0, og64_21 h0, ok64_21 h0, of64_22 h0, og64_22 h0, of64_23 h0, og64_23 h0, ok64_23 h0, of64_24 h0, og64_24 h0, ok64_24 h0, of64_25 h0, og64_25 h0, ok64_25 h0, of64_26 h0, og64_26 h0, ok64_26 h0, of64_27 h0, og64_27 h0, ok64_27 h0, of64_28 h0, og64_28 h0, of64_29 h0, og64_29 h0, of64_30 h0, og64_30 h0, of64_31 h0, og64_31 h0, of64_32 h0, og64_32 h0, of64_33 h0, og64_33 h0, of64_34 h0, og64_34 h0, of64_35 h0, og64_35 h0, ok64_35 h0, of64_36 h0, og64_36 h0, ok64_36 h0, oa85 h0, ol85 h0, b8 hj8, c8 hj8, as_s, nI_1]
theorem SM_85 {w : AW} {A B C : Nat → Int32} {c : Nat} {g : Nat → Int32} (sm : SM w A B C c) : SM (aset w 85 g) A B C c := by
  obtain ⟨h0, k1, k2⟩ := sm
  refine ⟨ok_a h0, ?_, fun i hi => ?_⟩
  · simp only [fo_f, fo_a, fo_j, co_f, co_a, co_j, ao_f, ao_a, ao_j, zo_f, zo_a, zo_j, jo_f, jo_a, jo_j, al_f, al_a, al_j, fg_a, fg_j, ag_f, ag_j, jg_f, jg_a, fk_f, fk_a, fk_j, fi_a, fi_j, k1]
  · simp only [fo_f, fo_a, fo_j, co_f, co_a, co_j, ao_f, ao_a, ao_j, zo_f, zo_a, zo_j, jo_f, jo_a, jo_j, al_f, al_a, al_j, fg_a, fg_j, ag_f, ag_j, jg_f, jg_a, fk_f, fk_a, fk_j, fi_a, fi_j, ag_s, ag_z, ag_n, fi_s, fi_n, fg_s, fg_n, jg_s, jg_n, Nat.reduceEqDiff, not_false_eq_true, and_false, false_and, true_and, and_true, and_self]
    exact k2 i hi
theorem x_mtL {X : Scr} {w : AW} {A B C : Nat → Int32} {c m : Nat} {v1 v2 v3 v4 v7 : Value} (sv : SV A B C c) (sm : SM w A B C c) (hm : m ≤ 60) : ∀ (n x : Nat), x + n = 800 → ∀ (g : Nat → Int32) (d : Nat → Nat), (∀ k, k < 8 → g k = nI (d k)) → ∃ g', Z X 152 68 [.ref 64, v1, v2, v3, v4, .int (nI m), .int (nI x), v7] [] (aset w 85 g) = Z X 152 107 [.ref 64, v1, v2, v3, v4, .int (nI m), .int (nI 800), v7] [] (aset w 85 g') ∧ ∀ k, k < 8 → g' k = nI (d k + tl m k (fitL A B C c x n)) := by
  have h0 := sm.1
  intro n
  induction n with
  | zero =>
    intro x hx g d hg
    have hx : x = 800 := hx
    subst hx
    have e : nI 800 ≥ 800 := by decide
    refine ⟨g, ?_, fun k hk => ?_⟩
    · rw [z152_68]
      simp only [z152_70, z152_73, Option.bind_some, Option.toList_some, Option.toList_none, List.cons_append, List.nil_append, sc_i, sc_r, sc_l, sc_u, sc_s, List.length_nil, List.length_cons, Nat.reduceAdd, Nat.reduceLeDiff, Nat.zero_le, le4_0, le4_1, le4_2, le4_3, rz0, rz1, rzt, eq_self, tI_0, tI_n0, if_true, if_false, ne_eq, not_true_eq_false, not_false_eq_true, and_self, Bool.false_eq_true, e]
    · rw [hg k hk]; rfl
  | succ n ih =>
    intro x hx g d hg
    have hx8 : x < 800 := by omega
    have e : (nI x ≥ 800) = (800 ≤ x) := geN (b := 800) (by omega) (by decide)
    have e' : ¬ 800 ≤ x := by omega
    have hf := x_isFit (X := X) sv (SM_85 (g := g) sm) hx8
    have hl : fitL A B C c x (n + 1) = (if (dig x && okL A B C x c 0) = true then x :: fitL A B C c (x + 1) n else fitL A B C c (x + 1) n) := by
      unfold fitL
      rw [List.range'_succ, List.filter_cons]
    by_cases q : (dig x && okL A B C x c 0) = true
    · have hd : 1 ≤ x % 10 := by
        have q1 : dig x = true := by
          rw [Bool.and_eq_true] at q
          exact q.1
        simp only [dig, Bool.and_eq_true, decide_eq_true_eq] at q1
        exact q1.2.1
      have hw : who x m < 8 := who_le
      have hh := x_whoM (X := X) (w := aset w 85 g) hx8 hd hm
      rw [q, bN_t] at hf
      obtain ⟨g', r1, r2⟩ := ih (x + 1) (by omega) (upd g (who x m) (nI (d (who x m)) + 1)) (fun k => d k + if who x m = k then 1 else 0) (fun k hk => by
        rw [updI]
        by_cases q : k = who x m
        · subst q; rw [if_pos rfl, if_pos rfl, nI_1]
        · rw [if_neg q, if_neg (fun z => q z.symm), hg k hk]; rfl)
      refine ⟨g', ?_, fun k hk => ?_⟩
      · rw [← r1, z152_68]
        simp only [z152_70, z152_73, z152_76, z152_77, z152_79, z152_82, z152_85, z152_86, z152_89, z152_91, z152_93, z152_96, z152_97, z152_98, z152_99, z152_100, z152_101, z152_104, Option.bind_some, Option.toList_some, Option.toList_none, List.cons_append, List.nil_append, sc_i, sc_r, sc_l, sc_u, sc_s, List.length_nil, List.length_cons, Nat.reduceAdd, Nat.reduceLeDiff, Nat.zero_le, le4_0, le4_1, le4_2, le4_3, rz0, rz1, rzt, eq_self, fo_f, fo_a, fo_j, co_f, co_a, co_j, ao_f, ao_a, ao_j, zo_f, zo_a, zo_j, jo_f, jo_a, jo_j, al_f, al_a, al_j, fg_a, fg_j, ag_f, ag_j, jg_f, jg_a, fk_f, fk_a, fk_j, fi_a, fi_j, ag_s, ag_z, ag_n, fi_s, fi_n, fg_s, fg_n, jg_s, jg_n, Nat.reduceEqDiff, not_false_eq_true, and_false, false_and, true_and, and_true, and_self, tI_0, tI_n0, if_true, if_false, ne_eq, not_true_eq_false, not_false_eq_true, and_self, Bool.false_eq_true, e, e', oc64 h0, of64_0 h0, og64_0 h0, ok64_0 h0, of64_1 h0, og64_1 h0, of64_2 h0, og64_2 h0, of64_3 h0, og64_3 h0, of64_4 h0, og64_4 h0, of64_5 h0, og64_5 h0, ok64_5 h0, of64_6 h0, og64_6 h0, ok64_6 h0, of64_7 h0, og64_7 h0, of64_8 h0, og64_8 h0, of64_9 h0, og64_9 h0, of64_10 h0, og64_10 h0, of64_11 h0, og64_11 h0, of64_12 h0, og64_12 h0, of64_13 h0, og64_13 h0, ok64_13 h0, of64_14 h0, og64_14 h0, of64_15 h0, og64_15 h0, ok64_15 h0, of64_16 h0, og64_16 h0, of64_17 h0, og64_17 h0, of64_18 h0, og64_18 h0, of64_19 h0, og64_19 h0, of64_20 h0, og64_20 h0, of64_21 h0, og64_21 h0, ok64_21 h0, of64_22 h0, og64_22 h0, of64_23 h0, og64_23 h0, ok64_23 h0, of64_24 h0, og64_24 h0, ok64_24 h0, of64_25 h0, og64_25 h0, ok64_25 h0, of64_26 h0, og64_26 h0, ok64_26 h0, of64_27 h0, og64_27 h0, ok64_27 h0, of64_28 h0, og64_28 h0, of64_29 h0, og64_29 h0, of64_30 h0, og64_30 h0, of64_31 h0, og64_31 h0, of64_32 h0, og64_32 h0, of64_33 h0, og64_33 h0, of64_34 h0, og64_34 h0, of64_35 h0, og64_35 h0, ok64_35 h0, of64_36 h0, og64_36 h0, ok64_36 h0, oa85 h0, ol85 h0, hf, z10, hh, b8 hw, c8 hw, hg _ hw, as_s, nI_1]
      · rw [r2 k hk, hl, if_pos q, tl]
        congr 1
        show d k + (if who x m = k then 1 else 0) + _ = _
        omega
    · have q' : (dig x && okL A B C x c 0) = false := by simpa using q
      rw [q', bN_f] at hf
      obtain ⟨g', r1, r2⟩ := ih (x + 1) (by omega) g d hg
      refine ⟨g', ?_, fun k hk => ?_⟩
      · rw [← r1, z152_68]
        simp only [z152_70, z152_73, z152_76, z152_77, z152_79, z152_82, z152_101, z152_104, Option.bind_some, Option.toList_some, Option.toList_none, List.cons_append, List.nil_append, sc_i, sc_r, sc_l, sc_u, sc_s, List.length_nil, List.length_cons, Nat.reduceAdd, Nat.reduceLeDiff, Nat.zero_le, le4_0, le4_1, le4_2, le4_3, rz0, rz1, rzt, eq_self, fo_f, fo_a, fo_j, co_f, co_a, co_j, ao_f, ao_a, ao_j, zo_f, zo_a, zo_j, jo_f, jo_a, jo_j, al_f, al_a, al_j, fg_a, fg_j, ag_f, ag_j, jg_f, jg_a, fk_f, fk_a, fk_j, fi_a, fi_j, ag_s, ag_z, ag_n, fi_s, fi_n, fg_s, fg_n, jg_s, jg_n, Nat.reduceEqDiff, not_false_eq_true, and_false, false_and, true_and, and_true, and_self, tI_0, tI_n0, if_true, if_false, ne_eq, not_true_eq_false, not_false_eq_true, and_self, Bool.false_eq_true, e, e', oc64 h0, of64_0 h0, og64_0 h0, ok64_0 h0, of64_1 h0, og64_1 h0, of64_2 h0, og64_2 h0, of64_3 h0, og64_3 h0, of64_4 h0, og64_4 h0, of64_5 h0, og64_5 h0, ok64_5 h0, of64_6 h0, og64_6 h0, ok64_6 h0, of64_7 h0, og64_7 h0, of64_8 h0, og64_8 h0, of64_9 h0, og64_9 h0, of64_10 h0, og64_10 h0, of64_11 h0, og64_11 h0, of64_12 h0, og64_12 h0, of64_13 h0, og64_13 h0, ok64_13 h0, of64_14 h0, og64_14 h0, of64_15 h0, og64_15 h0, ok64_15 h0, of64_16 h0, og64_16 h0, of64_17 h0, og64_17 h0, of64_18 h0, og64_18 h0, of64_19 h0, og64_19 h0, of64_20 h0, og64_20 h0, of64_21 h0, og64_21 h0, ok64_21 h0, of64_22 h0, og64_22 h0, of64_23 h0, og64_23 h0, ok64_23 h0, of64_24 h0, og64_24 h0, ok64_24 h0, of64_25 h0, og64_25 h0, ok64_25 h0, of64_26 h0, og64_26 h0, ok64_26 h0, of64_27 h0, og64_27 h0, ok64_27 h0, of64_28 h0, og64_28 h0, of64_29 h0, og64_29 h0, of64_30 h0, og64_30 h0, of64_31 h0, og64_31 h0, of64_32 h0, og64_32 h0, of64_33 h0, og64_33 h0, of64_34 h0, og64_34 h0, of64_35 h0, og64_35 h0, ok64_35 h0, of64_36 h0, og64_36 h0, ok64_36 h0, oa85 h0, ol85 h0, hf, nI_1]
      · rw [r2 k hk, hl, if_neg q]
theorem x_mkL {X : Scr} {w : AW} {L : List Nat} {m : Nat} {v1 : Value} (h0 : OK w) (hL : L.length ≤ 336) (ht : ∀ k, k < 8 → aget w 85 k = nI (tl m k L)) : ∀ (n k : Nat), k + n = 8 → ∀ (s : Int32 × Nat) (v : Value), isSec v = false → s.2 ≤ L.length + 1 → ∃ v', isSec v' = false ∧ Z X 152 110 [.ref 64, v1, .int (nI L.length), .int s.1, .int (nI s.2), .int (nI m), .int (nI k), v] [] w = Z X 152 199 [.ref 64, v1, .int (nI L.length), .int (foK L m n k s).1, .int (nI (foK L m n k s).2), .int (nI m), .int (nI 8), v'] [] w := by
  intro n
  induction n with
  | zero =>
    intro k hk s v hv hs
    have hk : k = 8 := hk
    subst hk
    have e : nI 8 ≥ 8 := by decide
    refine ⟨v, hv, ?_⟩
    rw [z152_110]
    simp only [z152_112, z152_114, Option.bind_some, Option.toList_some, Option.toList_none, List.cons_append, List.nil_append, sc_i, sc_r, sc_l, sc_u, sc_s, List.length_nil, List.length_cons, Nat.reduceAdd, Nat.reduceLeDiff, Nat.zero_le, le4_0, le4_1, le4_2, le4_3, rz0, rz1, rzt, eq_self, tI_0, tI_n0, if_true, if_false, ne_eq, not_true_eq_false, not_false_eq_true, and_self, Bool.false_eq_true, e]
    rfl
  | succ n ih =>
    intro k hk s v hv hs
    have hk8 : k < 8 := by omega
    have htk := ht k hk8
    have htl := tl_le (m := m) (k := k) L
    have hlf := lf_le (L := L) (m := m) (k := k)
    have es : nI L.length - nI (tl m k L) = nI (L.length - tl m k L) := pk_sub htl
    have hq : (10 : Int32) * nI m + nI k = nI (10 * m + k) := by
      rw [show (10 : Int32) = nI 10 from rfl, pk_mul, nI_add]
    obtain ⟨v', hv', r1⟩ := ih (k + 1) (by omega) (stK L m k s) (.int (nI (lf L m k))) sc_i (stK_b hs)
    refine ⟨v', hv', ?_⟩
    rw [foK, ← r1, z152_110]
    have hle : (nI (tl m k L) ≤ nI (L.length - tl m k L)) = (tl m k L ≤ L.length - tl m k L) := leN (by omega) (by omega)
    by_cases c1 : tl m k L ≤ L.length - tl m k L
    · have hlf' : lf L m k = L.length - tl m k L := by
        unfold lf
        by_cases z : tl m k L < L.length - tl m k L
        · rw [if_pos z]
        · rw [if_neg z]; omega
      by_cases e : lf L m k < s.2
      · have e2 : ¬ s.2 ≤ L.length - tl m k L := by omega
        have hst : stK L m k s = (nI (10 * m + k), lf L m k) := by unfold stK; rw [if_pos e]
        rw [hst]
        simp only [z152_0, z152_1, z152_2, z152_3, z152_4, z152_7, z152_10, z152_12, z152_13, z152_14, z152_15, z152_18, z152_19, z152_21, z152_22, z152_23, z152_24, z152_25, z152_27, z152_28, z152_32, z152_34, z152_37, z152_38, z152_41, z152_42, z152_46, z152_48, z152_51, z152_52, z152_55, z152_57, z152_58, z152_59, z152_62, z152_65, z152_66, z152_70, z152_73, z152_76, z152_77, z152_79, z152_82, z152_85, z152_86, z152_89, z152_91, z152_93, z152_96, z152_97, z152_98, z152_99, z152_100, z152_101, z152_104, z152_107, z152_108, z152_112, z152_114, z152_117, z152_118, z152_121, z152_123, z152_124, z152_125, z152_126, z152_129, z152_131, z152_132, z152_133, z152_136, z152_137, z152_140, z152_142, z152_143, z152_146, z152_147, z152_148, z152_151, z152_153, z152_154, z152_155, z152_157, z152_159, z152_161, z152_164, z152_166, z152_168, z152_169, z152_171, z152_172, z152_175, z152_176, z152_177, z152_179, z152_181, z152_184, z152_186, z152_189, z152_191, z152_193, z152_196, z152_202, z152_205, z152_206, z152_209, z152_210, z152_213, z152_214, z152_217, z152_219, Option.bind_some, Option.toList_some, Option.toList_none, List.cons_append, List.nil_append, sc_i, sc_r, sc_l, sc_u, sc_s, List.length_nil, List.length_cons, Nat.reduceAdd, Nat.reduceLeDiff, Nat.zero_le, le4_0, le4_1, le4_2, le4_3, rz0, rz1, rzt, eq_self, fo_f, fo_a, fo_j, co_f, co_a, co_j, ao_f, ao_a, ao_j, zo_f, zo_a, zo_j, jo_f, jo_a, jo_j, al_f, al_a, al_j, fg_a, fg_j, ag_f, ag_j, jg_f, jg_a, fk_f, fk_a, fk_j, fi_a, fi_j, tI_0, tI_n0, if_true, if_false, ne_eq, not_true_eq_false, not_false_eq_true, and_self, Bool.false_eq_true, nI_nge8 hk8, oc64 h0, of64_0 h0, og64_0 h0, ok64_0 h0, of64_1 h0, og64_1 h0, of64_2 h0, og64_2 h0, of64_3 h0, og64_3 h0, of64_4 h0, og64_4 h0, of64_5 h0, og64_5 h0, ok64_5 h0, of64_6 h0, og64_6 h0, ok64_6 h0, of64_7 h0, og64_7 h0, of64_8 h0, og64_8 h0, of64_9 h0, og64_9 h0, of64_10 h0, og64_10 h0, of64_11 h0, og64_11 h0, of64_12 h0, og64_12 h0, of64_13 h0, og64_13 h0, ok64_13 h0, of64_14 h0, og64_14 h0, of64_15 h0, og64_15 h0, ok64_15 h0, of64_16 h0, og64_16 h0, of64_17 h0, og64_17 h0, of64_18 h0, og64_18 h0, of64_19 h0, og64_19 h0, of64_20 h0, og64_20 h0, of64_21 h0, og64_21 h0, ok64_21 h0, of64_22 h0, og64_22 h0, of64_23 h0, og64_23 h0, ok64_23 h0, of64_24 h0, og64_24 h0, ok64_24 h0, of64_25 h0, og64_25 h0, ok64_25 h0, of64_26 h0, og64_26 h0, ok64_26 h0, of64_27 h0, og64_27 h0, ok64_27 h0, of64_28 h0, og64_28 h0, of64_29 h0, og64_29 h0, of64_30 h0, og64_30 h0, of64_31 h0, og64_31 h0, of64_32 h0, og64_32 h0, of64_33 h0, og64_33 h0, of64_34 h0, og64_34 h0, of64_35 h0, og64_35 h0, ok64_35 h0, of64_36 h0, og64_36 h0, ok64_36 h0, oa85 h0, ol85 h0, b8 hk8, c8 hk8, htk, es, hle, c1, hv, hlf', geN (show L.length - tl m k L < 1000 by omega) (show s.2 < 1000 by omega), e2, hq, nI_1]
      · have e2 : s.2 ≤ L.length - tl m k L := by omega
        have hst : stK L m k s = s := by unfold stK; rw [if_neg e]
        rw [hst]
        simp only [z152_0, z152_1, z152_2, z152_3, z152_4, z152_7, z152_10, z152_12, z152_13, z152_14, z152_15, z152_18, z152_19, z152_21, z152_22, z152_23, z152_24, z152_25, z152_27, z152_28, z152_32, z152_34, z152_37, z152_38, z152_41, z152_42, z152_46, z152_48, z152_51, z152_52, z152_55, z152_57, z152_58, z152_59, z152_62, z152_65, z152_66, z152_70, z152_73, z152_76, z152_77, z152_79, z152_82, z152_85, z152_86, z152_89, z152_91, z152_93, z152_96, z152_97, z152_98, z152_99, z152_100, z152_101, z152_104, z152_107, z152_108, z152_112, z152_114, z152_117, z152_118, z152_121, z152_123, z152_124, z152_125, z152_126, z152_129, z152_131, z152_132, z152_133, z152_136, z152_137, z152_140, z152_142, z152_143, z152_146, z152_147, z152_148, z152_151, z152_153, z152_154, z152_155, z152_157, z152_159, z152_161, z152_164, z152_166, z152_168, z152_169, z152_171, z152_172, z152_175, z152_176, z152_177, z152_179, z152_181, z152_184, z152_186, z152_189, z152_191, z152_193, z152_196, z152_202, z152_205, z152_206, z152_209, z152_210, z152_213, z152_214, z152_217, z152_219, Option.bind_some, Option.toList_some, Option.toList_none, List.cons_append, List.nil_append, sc_i, sc_r, sc_l, sc_u, sc_s, List.length_nil, List.length_cons, Nat.reduceAdd, Nat.reduceLeDiff, Nat.zero_le, le4_0, le4_1, le4_2, le4_3, rz0, rz1, rzt, eq_self, fo_f, fo_a, fo_j, co_f, co_a, co_j, ao_f, ao_a, ao_j, zo_f, zo_a, zo_j, jo_f, jo_a, jo_j, al_f, al_a, al_j, fg_a, fg_j, ag_f, ag_j, jg_f, jg_a, fk_f, fk_a, fk_j, fi_a, fi_j, tI_0, tI_n0, if_true, if_false, ne_eq, not_true_eq_false, not_false_eq_true, and_self, Bool.false_eq_true, nI_nge8 hk8, oc64 h0, of64_0 h0, og64_0 h0, ok64_0 h0, of64_1 h0, og64_1 h0, of64_2 h0, og64_2 h0, of64_3 h0, og64_3 h0, of64_4 h0, og64_4 h0, of64_5 h0, og64_5 h0, ok64_5 h0, of64_6 h0, og64_6 h0, ok64_6 h0, of64_7 h0, og64_7 h0, of64_8 h0, og64_8 h0, of64_9 h0, og64_9 h0, of64_10 h0, og64_10 h0, of64_11 h0, og64_11 h0, of64_12 h0, og64_12 h0, of64_13 h0, og64_13 h0, ok64_13 h0, of64_14 h0, og64_14 h0, of64_15 h0, og64_15 h0, ok64_15 h0, of64_16 h0, og64_16 h0, of64_17 h0, og64_17 h0, of64_18 h0, og64_18 h0, of64_19 h0, og64_19 h0, of64_20 h0, og64_20 h0, of64_21 h0, og64_21 h0, ok64_21 h0, of64_22 h0, og64_22 h0, of64_23 h0, og64_23 h0, ok64_23 h0, of64_24 h0, og64_24 h0, ok64_24 h0, of64_25 h0, og64_25 h0, ok64_25 h0, of64_26 h0, og64_26 h0, ok64_26 h0, of64_27 h0, og64_27 h0, ok64_27 h0, of64_28 h0, og64_28 h0, of64_29 h0, og64_29 h0, of64_30 h0, og64_30 h0, of64_31 h0, og64_31 h0, of64_32 h0, og64_32 h0, of64_33 h0, og64_33 h0, of64_34 h0, og64_34 h0, of64_35 h0, og64_35 h0, ok64_35 h0, of64_36 h0, og64_36 h0, ok64_36 h0, oa85 h0, ol85 h0, b8 hk8, c8 hk8, htk, es, hle, c1, hv, hlf', geN (show L.length - tl m k L < 1000 by omega) (show s.2 < 1000 by omega), e2, hq, nI_1]
    · have hlf' : lf L m k = tl m k L := by
        unfold lf
        rw [if_neg (by omega)]
      by_cases e : lf L m k < s.2
      · have e2 : ¬ s.2 ≤ tl m k L := by omega
        have hst : stK L m k s = (nI (10 * m + k), lf L m k) := by unfold stK; rw [if_pos e]
        rw [hst]
        simp only [z152_0, z152_1, z152_2, z152_3, z152_4, z152_7, z152_10, z152_12, z152_13, z152_14, z152_15, z152_18, z152_19, z152_21, z152_22, z152_23, z152_24, z152_25, z152_27, z152_28, z152_32, z152_34, z152_37, z152_38, z152_41, z152_42, z152_46, z152_48, z152_51, z152_52, z152_55, z152_57, z152_58, z152_59, z152_62, z152_65, z152_66, z152_70, z152_73, z152_76, z152_77, z152_79, z152_82, z152_85, z152_86, z152_89, z152_91, z152_93, z152_96, z152_97, z152_98, z152_99, z152_100, z152_101, z152_104, z152_107, z152_108, z152_112, z152_114, z152_117, z152_118, z152_121, z152_123, z152_124, z152_125, z152_126, z152_129, z152_131, z152_132, z152_133, z152_136, z152_137, z152_140, z152_142, z152_143, z152_146, z152_147, z152_148, z152_151, z152_153, z152_154, z152_155, z152_157, z152_159, z152_161, z152_164, z152_166, z152_168, z152_169, z152_171, z152_172, z152_175, z152_176, z152_177, z152_179, z152_181, z152_184, z152_186, z152_189, z152_191, z152_193, z152_196, z152_202, z152_205, z152_206, z152_209, z152_210, z152_213, z152_214, z152_217, z152_219, Option.bind_some, Option.toList_some, Option.toList_none, List.cons_append, List.nil_append, sc_i, sc_r, sc_l, sc_u, sc_s, List.length_nil, List.length_cons, Nat.reduceAdd, Nat.reduceLeDiff, Nat.zero_le, le4_0, le4_1, le4_2, le4_3, rz0, rz1, rzt, eq_self, fo_f, fo_a, fo_j, co_f, co_a, co_j, ao_f, ao_a, ao_j, zo_f, zo_a, zo_j, jo_f, jo_a, jo_j, al_f, al_a, al_j, fg_a, fg_j, ag_f, ag_j, jg_f, jg_a, fk_f, fk_a, fk_j, fi_a, fi_j, tI_0, tI_n0, if_true, if_false, ne_eq, not_true_eq_false, not_false_eq_true, and_self, Bool.false_eq_true, nI_nge8 hk8, oc64 h0, of64_0 h0, og64_0 h0, ok64_0 h0, of64_1 h0, og64_1 h0, of64_2 h0, og64_2 h0, of64_3 h0, og64_3 h0, of64_4 h0, og64_4 h0, of64_5 h0, og64_5 h0, ok64_5 h0, of64_6 h0, og64_6 h0, ok64_6 h0, of64_7 h0, og64_7 h0, of64_8 h0, og64_8 h0, of64_9 h0, og64_9 h0, of64_10 h0, og64_10 h0, of64_11 h0, og64_11 h0, of64_12 h0, og64_12 h0, of64_13 h0, og64_13 h0, ok64_13 h0, of64_14 h0, og64_14 h0, of64_15 h0, og64_15 h0, ok64_15 h0, of64_16 h0, og64_16 h0, of64_17 h0, og64_17 h0, of64_18 h0, og64_18 h0, of64_19 h0, og64_19 h0, of64_20 h0, og64_20 h0, of64_21 h0, og64_21 h0, ok64_21 h0, of64_22 h0, og64_22 h0, of64_23 h0, og64_23 h0, ok64_23 h0, of64_24 h0, og64_24 h0, ok64_24 h0, of64_25 h0, og64_25 h0, ok64_25 h0, of64_26 h0, og64_26 h0, ok64_26 h0, of64_27 h0, og64_27 h0, ok64_27 h0, of64_28 h0, og64_28 h0, of64_29 h0, og64_29 h0, of64_30 h0, og64_30 h0, of64_31 h0, og64_31 h0, of64_32 h0, og64_32 h0, of64_33 h0, og64_33 h0, of64_34 h0, og64_34 h0, of64_35 h0, og64_35 h0, ok64_35 h0, of64_36 h0, og64_36 h0, ok64_36 h0, oa85 h0, ol85 h0, b8 hk8, c8 hk8, htk, es, hle, c1, hv, hlf', geN (show tl m k L < 1000 by omega) (show s.2 < 1000 by omega), e2, hq, nI_1]
      · have e2 : s.2 ≤ tl m k L := by omega
        have hst : stK L m k s = s := by unfold stK; rw [if_neg e]
        rw [hst]
        simp only [z152_0, z152_1, z152_2, z152_3, z152_4, z152_7, z152_10, z152_12, z152_13, z152_14, z152_15, z152_18, z152_19, z152_21, z152_22, z152_23, z152_24, z152_25, z152_27, z152_28, z152_32, z152_34, z152_37, z152_38, z152_41, z152_42, z152_46, z152_48, z152_51, z152_52, z152_55, z152_57, z152_58, z152_59, z152_62, z152_65, z152_66, z152_70, z152_73, z152_76, z152_77, z152_79, z152_82, z152_85, z152_86, z152_89, z152_91, z152_93, z152_96, z152_97, z152_98, z152_99, z152_100, z152_101, z152_104, z152_107, z152_108, z152_112, z152_114, z152_117, z152_118, z152_121, z152_123, z152_124, z152_125, z152_126, z152_129, z152_131, z152_132, z152_133, z152_136, z152_137, z152_140, z152_142, z152_143, z152_146, z152_147, z152_148, z152_151, z152_153, z152_154, z152_155, z152_157, z152_159, z152_161, z152_164, z152_166, z152_168, z152_169, z152_171, z152_172, z152_175, z152_176, z152_177, z152_179, z152_181, z152_184, z152_186, z152_189, z152_191, z152_193, z152_196, z152_202, z152_205, z152_206, z152_209, z152_210, z152_213, z152_214, z152_217, z152_219, Option.bind_some, Option.toList_some, Option.toList_none, List.cons_append, List.nil_append, sc_i, sc_r, sc_l, sc_u, sc_s, List.length_nil, List.length_cons, Nat.reduceAdd, Nat.reduceLeDiff, Nat.zero_le, le4_0, le4_1, le4_2, le4_3, rz0, rz1, rzt, eq_self, fo_f, fo_a, fo_j, co_f, co_a, co_j, ao_f, ao_a, ao_j, zo_f, zo_a, zo_j, jo_f, jo_a, jo_j, al_f, al_a, al_j, fg_a, fg_j, ag_f, ag_j, jg_f, jg_a, fk_f, fk_a, fk_j, fi_a, fi_j, tI_0, tI_n0, if_true, if_false, ne_eq, not_true_eq_false, not_false_eq_true, and_self, Bool.false_eq_true, nI_nge8 hk8, oc64 h0, of64_0 h0, og64_0 h0, ok64_0 h0, of64_1 h0, og64_1 h0, of64_2 h0, og64_2 h0, of64_3 h0, og64_3 h0, of64_4 h0, og64_4 h0, of64_5 h0, og64_5 h0, ok64_5 h0, of64_6 h0, og64_6 h0, ok64_6 h0, of64_7 h0, og64_7 h0, of64_8 h0, og64_8 h0, of64_9 h0, og64_9 h0, of64_10 h0, og64_10 h0, of64_11 h0, og64_11 h0, of64_12 h0, og64_12 h0, of64_13 h0, og64_13 h0, ok64_13 h0, of64_14 h0, og64_14 h0, of64_15 h0, og64_15 h0, ok64_15 h0, of64_16 h0, og64_16 h0, of64_17 h0, og64_17 h0, of64_18 h0, og64_18 h0, of64_19 h0, og64_19 h0, of64_20 h0, og64_20 h0, of64_21 h0, og64_21 h0, ok64_21 h0, of64_22 h0, og64_22 h0, of64_23 h0, og64_23 h0, ok64_23 h0, of64_24 h0, og64_24 h0, ok64_24 h0, of64_25 h0, og64_25 h0, ok64_25 h0, of64_26 h0, og64_26 h0, ok64_26 h0, of64_27 h0, og64_27 h0, ok64_27 h0, of64_28 h0, og64_28 h0, of64_29 h0, og64_29 h0, of64_30 h0, og64_30 h0, of64_31 h0, og64_31 h0, of64_32 h0, og64_32 h0, of64_33 h0, og64_33 h0, of64_34 h0, og64_34 h0, of64_35 h0, og64_35 h0, ok64_35 h0, of64_36 h0, og64_36 h0, ok64_36 h0, oa85 h0, ol85 h0, b8 hk8, c8 hk8, htk, es, hle, c1, hv, hlf', geN (show tl m k L < 1000 by omega) (show s.2 < 1000 by omega), e2, hq, nI_1]
