/-! sentences, the least: the class -/
theorem b10 {j : Nat} (hj : j < 10) : inB (nI j) 10 = true := inB_nI hj (by decide)
theorem c10 {j : Nat} (hj : j < 10) : (nI j).toNatClampNeg = j := nI_clamp (by omega)
def OW (w : AW) (i n : Nat) : Prop := OK w ∧ ∀ j, j < n → aget w 33 j = nI (oIO i j).1 ∧ aget w 34 j = nI (oIO i j).2
theorem x_openL {X : Scr} {i : Nat} (hi : i < 11) : ∀ (n k : Nat), k + n = 10 → 1 ≤ k → ∀ (w : AW) (v4 v5 : Value), isSec v4 = false → isSec v5 = false → OW w i k → ∃ w', Z X 65 21 [.ref 30, .int (nI i), .int (nI (10 - i)), .int (nI k), v4, v5] [] w = some (none, w') ∧ OW w' i 10 ∧ same w w' := by
  intro n
  induction n with
  | zero =>
    intro k hk hk1 w v4 v5 h4 h5 ow
    have hk : k = 10 := hk
    subst hk
    have e : nI 10 > 9 := by decide
    refine ⟨w, ?_, ow, same_rf⟩
    rw [z65_21]
    simp only [z65_0, z65_2, z65_3, z65_4, z65_5, z65_6, z65_9, z65_10, z65_11, z65_12, z65_13, z65_16, z65_17, z65_18, z65_19, z65_20, z65_22, z65_24, z65_27, z65_28, z65_31, z65_32, z65_33, z65_34, z65_35, z65_36, z65_37, z65_39, z65_40, z65_43, z65_44, z65_45, z65_46, z65_47, z65_49, z65_50, z65_53, z65_54, z65_55, z65_56, z65_59, z65_61, z65_64, z65_65, z65_66, z65_69, z65_71, z65_74, z65_75, z65_76, z65_77, z65_78, z65_81, z65_82, z65_83, z65_86, z65_88, z65_91, z65_92, z65_93, z65_94, z65_97, z65_99, z65_102, z65_103, z65_104, z65_105, z65_108, z65_111, Option.bind_some, Option.toList_some, Option.toList_none, List.cons_append, List.nil_append, sc_i, sc_r, sc_l, sc_u, sc_s, List.length_nil, List.length_cons, Nat.reduceAdd, Nat.reduceLeDiff, Nat.zero_le, le4_0, le4_1, le4_2, le4_3, rz0, rz1, rzt, eq_self, tI_0, tI_n0, if_true, if_false, ne_eq, not_true_eq_false, not_false_eq_true, and_self, Bool.false_eq_true, e]
  | succ n ih =>
    intro k hk hk1 w v4 v5 h4 h5 ow
    obtain ⟨h0, hw⟩ := id ow
    obtain ⟨j, rfl⟩ : ∃ j, k = j + 1 := ⟨k - 1, by omega⟩
    have hj : j < 9 := by omega
    have e : ¬ nI (j + 1) > 9 := i32_nlt.mpr (by rw [show (9 : Int32) = nI 9 from rfl]; exact nI_le (by omega) (by decide))
    have es : nI (j + 1) - 1 = nI j := pk_sub (b := 1) (by omega)
    obtain ⟨q1, q2⟩ := hw j (by omega)
    obtain ⟨o1, o2, o3⟩ := oIO_k i hi j (by omega)
    obtain ⟨p1, p2⟩ := oIO_1 i hi j hj
    obtain ⟨W, hW⟩ : ∃ W, W = aset (aset w 33 (upd (aget w 33) (j + 1) (nI (oIO i (j + 1)).1))) 34 (upd (aget w 34) (j + 1) (nI (oIO i (j + 1)).2)) := ⟨_, rfl⟩
    have owW : OW W i (j + 1 + 1) := by
      rw [hW]
      refine ⟨ok_a (ok_a h0), fun t ht => ?_⟩
      simp only [fo_f, fo_a, fo_j, co_f, co_a, co_j, ao_f, ao_a, ao_j, zo_f, zo_a, zo_j, jo_f, jo_a, jo_j, al_f, al_a, al_j, fg_a, fg_j, ag_f, ag_j, jg_f, jg_a, fk_f, fk_a, fk_j, fi_a, fi_j, ag_s, ag_z, ag_n, fi_s, fi_n, fg_s, fg_n, jg_s, jg_n, Nat.reduceEqDiff, not_false_eq_true, and_false, false_and, true_and, and_true, and_self, oa33 h0, ol33 h0, oa34 h0, ol34 h0, updI]
      by_cases z : t = j + 1
      · rw [if_pos z, if_pos z, z]; exact ⟨rfl, rfl⟩
      · rw [if_neg z, if_neg z]; exact hw t (by omega)
    obtain ⟨w', r1, r2, r3⟩ := ih (j + 1 + 1) (by omega) (by omega) W (.int (nI ((oIO i j).1 <<< 1))) (.int (nI (oIO i j).2)) sc_i sc_i owW
    refine ⟨w', ?_, r2, same_tr (by rw [hW]; exact same_tr (same_a (by decide)) (same_a (by decide))) r3⟩
    rw [← r1, hW, z65_21, ← p1, ← p2]
    by_cases a1 : nI i ≤ 1
    · by_cases a2 : nI (10 - i) ≤ 0
      · by_cases a3 : nI i ≤ 0
        · by_cases a4 : nI (10 - i) ≤ 1 <;> simp only [z65_0, z65_2, z65_3, z65_4, z65_5, z65_6, z65_9, z65_10, z65_11, z65_12, z65_13, z65_16, z65_17, z65_18, z65_19, z65_20, z65_22, z65_24, z65_27, z65_28, z65_31, z65_32, z65_33, z65_34, z65_35, z65_36, z65_37, z65_39, z65_40, z65_43, z65_44, z65_45, z65_46, z65_47, z65_49, z65_50, z65_53, z65_54, z65_55, z65_56, z65_59, z65_61, z65_64, z65_65, z65_66, z65_69, z65_71, z65_74, z65_75, z65_76, z65_77, z65_78, z65_81, z65_82, z65_83, z65_86, z65_88, z65_91, z65_92, z65_93, z65_94, z65_97, z65_99, z65_102, z65_103, z65_104, z65_105, z65_108, z65_111, Option.bind_some, Option.toList_some, Option.toList_none, List.cons_append, List.nil_append, sc_i, sc_r, sc_l, sc_u, sc_s, List.length_nil, List.length_cons, Nat.reduceAdd, Nat.reduceLeDiff, Nat.zero_le, le4_0, le4_1, le4_2, le4_3, rz0, rz1, rzt, eq_self, fo_f, fo_a, fo_j, co_f, co_a, co_j, ao_f, ao_a, ao_j, zo_f, zo_a, zo_j, jo_f, jo_a, jo_j, al_f, al_a, al_j, fg_a, fg_j, ag_f, ag_j, jg_f, jg_a, fk_f, fk_a, fk_j, fi_a, fi_j, ag_s, ag_z, ag_n, fi_s, fi_n, fg_s, fg_n, jg_s, jg_n, Nat.reduceEqDiff, not_false_eq_true, and_false, false_and, true_and, and_true, and_self, tI_0, tI_n0, if_true, if_false, ne_eq, not_true_eq_false, not_false_eq_true, and_self, Bool.false_eq_true, e, es, oc30 h0, of30_0 h0, og30_0 h0, of30_1 h0, og30_1 h0, of30_2 h0, og30_2 h0, of30_3 h0, og30_3 h0, oa33 h0, ol33 h0, oa34 h0, ol34 h0, b10 (show j < 10 by omega), c10 (show j < 10 by omega), b10 (show j + 1 < 10 by omega), c10 (show j + 1 < 10 by omega), q1, q2, o3, h4, h5, a1, a2, a3, a4, nI_1]
        · by_cases a4 : nI (10 - i) ≤ 1 <;> simp only [z65_0, z65_2, z65_3, z65_4, z65_5, z65_6, z65_9, z65_10, z65_11, z65_12, z65_13, z65_16, z65_17, z65_18, z65_19, z65_20, z65_22, z65_24, z65_27, z65_28, z65_31, z65_32, z65_33, z65_34, z65_35, z65_36, z65_37, z65_39, z65_40, z65_43, z65_44, z65_45, z65_46, z65_47, z65_49, z65_50, z65_53, z65_54, z65_55, z65_56, z65_59, z65_61, z65_64, z65_65, z65_66, z65_69, z65_71, z65_74, z65_75, z65_76, z65_77, z65_78, z65_81, z65_82, z65_83, z65_86, z65_88, z65_91, z65_92, z65_93, z65_94, z65_97, z65_99, z65_102, z65_103, z65_104, z65_105, z65_108, z65_111, Option.bind_some, Option.toList_some, Option.toList_none, List.cons_append, List.nil_append, sc_i, sc_r, sc_l, sc_u, sc_s, List.length_nil, List.length_cons, Nat.reduceAdd, Nat.reduceLeDiff, Nat.zero_le, le4_0, le4_1, le4_2, le4_3, rz0, rz1, rzt, eq_self, fo_f, fo_a, fo_j, co_f, co_a, co_j, ao_f, ao_a, ao_j, zo_f, zo_a, zo_j, jo_f, jo_a, jo_j, al_f, al_a, al_j, fg_a, fg_j, ag_f, ag_j, jg_f, jg_a, fk_f, fk_a, fk_j, fi_a, fi_j, ag_s, ag_z, ag_n, fi_s, fi_n, fg_s, fg_n, jg_s, jg_n, Nat.reduceEqDiff, not_false_eq_true, and_false, false_and, true_and, and_true, and_self, tI_0, tI_n0, if_true, if_false, ne_eq, not_true_eq_false, not_false_eq_true, and_self, Bool.false_eq_true, e, es, oc30 h0, of30_0 h0, og30_0 h0, of30_1 h0, og30_1 h0, of30_2 h0, og30_2 h0, of30_3 h0, og30_3 h0, oa33 h0, ol33 h0, oa34 h0, ol34 h0, b10 (show j < 10 by omega), c10 (show j < 10 by omega), b10 (show j + 1 < 10 by omega), c10 (show j + 1 < 10 by omega), q1, q2, o3, h4, h5, a1, a2, a3, a4, nI_1]
      · by_cases a3 : nI i ≤ 0
        · by_cases a4 : nI (10 - i) ≤ 1 <;> simp only [z65_0, z65_2, z65_3, z65_4, z65_5, z65_6, z65_9, z65_10, z65_11, z65_12, z65_13, z65_16, z65_17, z65_18, z65_19, z65_20, z65_22, z65_24, z65_27, z65_28, z65_31, z65_32, z65_33, z65_34, z65_35, z65_36, z65_37, z65_39, z65_40, z65_43, z65_44, z65_45, z65_46, z65_47, z65_49, z65_50, z65_53, z65_54, z65_55, z65_56, z65_59, z65_61, z65_64, z65_65, z65_66, z65_69, z65_71, z65_74, z65_75, z65_76, z65_77, z65_78, z65_81, z65_82, z65_83, z65_86, z65_88, z65_91, z65_92, z65_93, z65_94, z65_97, z65_99, z65_102, z65_103, z65_104, z65_105, z65_108, z65_111, Option.bind_some, Option.toList_some, Option.toList_none, List.cons_append, List.nil_append, sc_i, sc_r, sc_l, sc_u, sc_s, List.length_nil, List.length_cons, Nat.reduceAdd, Nat.reduceLeDiff, Nat.zero_le, le4_0, le4_1, le4_2, le4_3, rz0, rz1, rzt, eq_self, fo_f, fo_a, fo_j, co_f, co_a, co_j, ao_f, ao_a, ao_j, zo_f, zo_a, zo_j, jo_f, jo_a, jo_j, al_f, al_a, al_j, fg_a, fg_j, ag_f, ag_j, jg_f, jg_a, fk_f, fk_a, fk_j, fi_a, fi_j, ag_s, ag_z, ag_n, fi_s, fi_n, fg_s, fg_n, jg_s, jg_n, Nat.reduceEqDiff, not_false_eq_true, and_false, false_and, true_and, and_true, and_self, tI_0, tI_n0, if_true, if_false, ne_eq, not_true_eq_false, not_false_eq_true, and_self, Bool.false_eq_true, e, es, oc30 h0, of30_0 h0, og30_0 h0, of30_1 h0, og30_1 h0, of30_2 h0, og30_2 h0, of30_3 h0, og30_3 h0, oa33 h0, ol33 h0, oa34 h0, ol34 h0, b10 (show j < 10 by omega), c10 (show j < 10 by omega), b10 (show j + 1 < 10 by omega), c10 (show j + 1 < 10 by omega), q1, q2, o3, h4, h5, a1, a2, a3, a4, nI_1]
        · by_cases a4 : nI (10 - i) ≤ 1 <;> simp only [z65_0, z65_2, z65_3, z65_4, z65_5, z65_6, z65_9, z65_10, z65_11, z65_12, z65_13, z65_16, z65_17, z65_18, z65_19, z65_20, z65_22, z65_24, z65_27, z65_28, z65_31, z65_32, z65_33, z65_34, z65_35, z65_36, z65_37, z65_39, z65_40, z65_43, z65_44, z65_45, z65_46, z65_47, z65_49, z65_50, z65_53, z65_54, z65_55, z65_56, z65_59, z65_61, z65_64, z65_65, z65_66, z65_69, z65_71, z65_74, z65_75, z65_76, z65_77, z65_78, z65_81, z65_82, z65_83, z65_86, z65_88, z65_91, z65_92, z65_93, z65_94, z65_97, z65_99, z65_102, z65_103, z65_104, z65_105, z65_108, z65_111, Option.bind_some, Option.toList_some, Option.toList_none, List.cons_append, List.nil_append, sc_i, sc_r, sc_l, sc_u, sc_s, List.length_nil, List.length_cons, Nat.reduceAdd, Nat.reduceLeDiff, Nat.zero_le, le4_0, le4_1, le4_2, le4_3, rz0, rz1, rzt, eq_self, fo_f, fo_a, fo_j, co_f, co_a, co_j, ao_f, ao_a, ao_j, zo_f, zo_a, zo_j, jo_f, jo_a, jo_j, al_f, al_a, al_j, fg_a, fg_j, ag_f, ag_j, jg_f, jg_a, fk_f, fk_a, fk_j, fi_a, fi_j, ag_s, ag_z, ag_n, fi_s, fi_n, fg_s, fg_n, jg_s, jg_n, Nat.reduceEqDiff, not_false_eq_true, and_false, false_and, true_and, and_true, and_self, tI_0, tI_n0, if_true, if_false, ne_eq, not_true_eq_false, not_false_eq_true, and_self, Bool.false_eq_true, e, es, oc30 h0, of30_0 h0, og30_0 h0, of30_1 h0, og30_1 h0, of30_2 h0, og30_2 h0, of30_3 h0, og30_3 h0, oa33 h0, ol33 h0, oa34 h0, ol34 h0, b10 (show j < 10 by omega), c10 (show j < 10 by omega), b10 (show j + 1 < 10 by omega), c10 (show j + 1 < 10 by omega), q1, q2, o3, h4, h5, a1, a2, a3, a4, nI_1]
    · have a3 : ¬ nI i ≤ 0 := fun q => a1 (by
        have h1 := Int32.le_iff_toInt_le.mp q
        rw [show (0 : Int32).toInt = 0 from rfl] at h1
        exact Int32.le_iff_toInt_le.mpr (by rw [show (1 : Int32).toInt = 1 from rfl]; omega))
      by_cases a2 : nI (10 - i) ≤ 0
      · by_cases a4 : nI (10 - i) ≤ 1 <;> simp only [z65_0, z65_2, z65_3, z65_4, z65_5, z65_6, z65_9, z65_10, z65_11, z65_12, z65_13, z65_16, z65_17, z65_18, z65_19, z65_20, z65_22, z65_24, z65_27, z65_28, z65_31, z65_32, z65_33, z65_34, z65_35, z65_36, z65_37, z65_39, z65_40, z65_43, z65_44, z65_45, z65_46, z65_47, z65_49, z65_50, z65_53, z65_54, z65_55, z65_56, z65_59, z65_61, z65_64, z65_65, z65_66, z65_69, z65_71, z65_74, z65_75, z65_76, z65_77, z65_78, z65_81, z65_82, z65_83, z65_86, z65_88, z65_91, z65_92, z65_93, z65_94, z65_97, z65_99, z65_102, z65_103, z65_104, z65_105, z65_108, z65_111, Option.bind_some, Option.toList_some, Option.toList_none, List.cons_append, List.nil_append, sc_i, sc_r, sc_l, sc_u, sc_s, List.length_nil, List.length_cons, Nat.reduceAdd, Nat.reduceLeDiff, Nat.zero_le, le4_0, le4_1, le4_2, le4_3, rz0, rz1, rzt, eq_self, fo_f, fo_a, fo_j, co_f, co_a, co_j, ao_f, ao_a, ao_j, zo_f, zo_a, zo_j, jo_f, jo_a, jo_j, al_f, al_a, al_j, fg_a, fg_j, ag_f, ag_j, jg_f, jg_a, fk_f, fk_a, fk_j, fi_a, fi_j, ag_s, ag_z, ag_n, fi_s, fi_n, fg_s, fg_n, jg_s, jg_n, Nat.reduceEqDiff, not_false_eq_true, and_false, false_and, true_and, and_true, and_self, tI_0, tI_n0, if_true, if_false, ne_eq, not_true_eq_false, not_false_eq_true, and_self, Bool.false_eq_true, e, es, oc30 h0, of30_0 h0, og30_0 h0, of30_1 h0, og30_1 h0, of30_2 h0, og30_2 h0, of30_3 h0, og30_3 h0, oa33 h0, ol33 h0, oa34 h0, ol34 h0, b10 (show j < 10 by omega), c10 (show j < 10 by omega), b10 (show j + 1 < 10 by omega), c10 (show j + 1 < 10 by omega), q1, q2, o3, h4, h5, a1, a2, a3, a4, nI_1]
      · by_cases a4 : nI (10 - i) ≤ 1 <;> simp only [z65_0, z65_2, z65_3, z65_4, z65_5, z65_6, z65_9, z65_10, z65_11, z65_12, z65_13, z65_16, z65_17, z65_18, z65_19, z65_20, z65_22, z65_24, z65_27, z65_28, z65_31, z65_32, z65_33, z65_34, z65_35, z65_36, z65_37, z65_39, z65_40, z65_43, z65_44, z65_45, z65_46, z65_47, z65_49, z65_50, z65_53, z65_54, z65_55, z65_56, z65_59, z65_61, z65_64, z65_65, z65_66, z65_69, z65_71, z65_74, z65_75, z65_76, z65_77, z65_78, z65_81, z65_82, z65_83, z65_86, z65_88, z65_91, z65_92, z65_93, z65_94, z65_97, z65_99, z65_102, z65_103, z65_104, z65_105, z65_108, z65_111, Option.bind_some, Option.toList_some, Option.toList_none, List.cons_append, List.nil_append, sc_i, sc_r, sc_l, sc_u, sc_s, List.length_nil, List.length_cons, Nat.reduceAdd, Nat.reduceLeDiff, Nat.zero_le, le4_0, le4_1, le4_2, le4_3, rz0, rz1, rzt, eq_self, fo_f, fo_a, fo_j, co_f, co_a, co_j, ao_f, ao_a, ao_j, zo_f, zo_a, zo_j, jo_f, jo_a, jo_j, al_f, al_a, al_j, fg_a, fg_j, ag_f, ag_j, jg_f, jg_a, fk_f, fk_a, fk_j, fi_a, fi_j, ag_s, ag_z, ag_n, fi_s, fi_n, fg_s, fg_n, jg_s, jg_n, Nat.reduceEqDiff, not_false_eq_true, and_false, false_and, true_and, and_true, and_self, tI_0, tI_n0, if_true, if_false, ne_eq, not_true_eq_false, not_false_eq_true, and_self, Bool.false_eq_true, e, es, oc30 h0, of30_0 h0, og30_0 h0, of30_1 h0, og30_1 h0, of30_2 h0, og30_2 h0, of30_3 h0, og30_3 h0, oa33 h0, ol33 h0, oa34 h0, ol34 h0, b10 (show j < 10 by omega), c10 (show j < 10 by omega), b10 (show j + 1 < 10 by omega), c10 (show j + 1 < 10 by omega), q1, q2, o3, h4, h5, a1, a2, a3, a4, nI_1]
theorem x_open {X : Scr} {w : AW} {i : Nat} (hi : i < 11) (h0 : OK w) : ∃ w', Z X 65 0 [.ref 30, .int (nI i), uns, uns, uns, uns] [] w = some (none, w') ∧ OW w' i 10 ∧ same w w' := by
  have ow : OW (aset (aset w 33 (upd (aget w 33) 0 1)) 34 (upd (aget w 34) 0 1)) i 1 := by
    refine ⟨ok_a (ok_a h0), fun t ht => ?_⟩
    have z : t = 0 := by omega
    subst z
    simp only [fo_f, fo_a, fo_j, co_f, co_a, co_j, ao_f, ao_a, ao_j, zo_f, zo_a, zo_j, jo_f, jo_a, jo_j, al_f, al_a, al_j, fg_a, fg_j, ag_f, ag_j, jg_f, jg_a, fk_f, fk_a, fk_j, fi_a, fi_j, ag_s, ag_z, ag_n, fi_s, fi_n, fg_s, fg_n, jg_s, jg_n, Nat.reduceEqDiff, not_false_eq_true, and_false, false_and, true_and, and_true, and_self, oa33 h0, ol33 h0, oa34 h0, ol34 h0, updI]
    exact ⟨rfl, rfl⟩
  obtain ⟨w', r1, r2, r3⟩ := x_openL (X := X) hi 9 1 rfl (Nat.le_refl 1) _ uns uns sc_u sc_u ow
  have es : (10 : Int32) - nI i = nI (10 - i) := pk_sub (a := 10) (by omega)
  have z1 : nI 1 = 1 := rfl
  have b0 : inB 0 10 = true := b10 (j := 0) (by decide)
  have c0 : (0 : Int32).toNatClampNeg = 0 := rfl
  rw [z1] at r1
  refine ⟨w', ?_, r2, same_tr (same_tr (same_a (by decide)) (same_a (by decide))) r3⟩
  simp only [z65_0, z65_2, z65_3, z65_4, z65_5, z65_6, z65_9, z65_10, z65_11, z65_12, z65_13, z65_16, z65_17, z65_18, z65_19, z65_20, z65_22, z65_24, z65_27, z65_28, z65_31, z65_32, z65_33, z65_34, z65_35, z65_36, z65_37, z65_39, z65_40, z65_43, z65_44, z65_45, z65_46, z65_47, z65_49, z65_50, z65_53, z65_54, z65_55, z65_56, z65_59, z65_61, z65_64, z65_65, z65_66, z65_69, z65_71, z65_74, z65_75, z65_76, z65_77, z65_78, z65_81, z65_82, z65_83, z65_86, z65_88, z65_91, z65_92, z65_93, z65_94, z65_97, z65_99, z65_102, z65_103, z65_104, z65_105, z65_108, z65_111, Option.bind_some, Option.toList_some, Option.toList_none, List.cons_append, List.nil_append, sc_i, sc_r, sc_l, sc_u, sc_s, List.length_nil, List.length_cons, Nat.reduceAdd, Nat.reduceLeDiff, Nat.zero_le, le4_0, le4_1, le4_2, le4_3, rz0, rz1, rzt, eq_self, fo_f, fo_a, fo_j, co_f, co_a, co_j, ao_f, ao_a, ao_j, zo_f, zo_a, zo_j, jo_f, jo_a, jo_j, al_f, al_a, al_j, fg_a, fg_j, ag_f, ag_j, jg_f, jg_a, fk_f, fk_a, fk_j, fi_a, fi_j, ag_s, ag_z, ag_n, fi_s, fi_n, fg_s, fg_n, jg_s, jg_n, Nat.reduceEqDiff, not_false_eq_true, and_false, false_and, true_and, and_true, and_self, es, oc30 h0, of30_0 h0, og30_0 h0, of30_1 h0, og30_1 h0, of30_2 h0, og30_2 h0, of30_3 h0, og30_3 h0, oa33 h0, ol33 h0, oa34 h0, ol34 h0, b0, c0, r1]
theorem x_leastL {X : Scr} {w : AW} {s due left : Nat} {last : Int32} (hs : s < 1024) (hd : due < 10) (hl : left < 10) (ow : OW w (pcN s) 10) : ∀ (n k : Nat), k + n = 10 → ∀ (v6 v7 : Value), isSec v6 = false → isSec v7 = false → Z X 66 17 [.ref 30, .int (nI s), .int last, .int (nI due), .int (nI left), .int (nI k), v6, v7] [] w = some (some (.int (upP (lsP s left last due) n k)), w) := by
  obtain ⟨h0, hw⟩ := ow
  obtain ⟨q1, q2⟩ := hw left hl
  intro n
  induction n with
  | zero =>
    intro k hk v6 v7 h6 h7
    have hk : k = 10 := hk
    subst hk
    have e : nI 10 ≥ 10 := by decide
    rw [z66_17]
    simp only [z66_0, z66_2, z66_3, z66_5, z66_8, z66_11, z66_13, z66_14, z66_15, z66_19, z66_21, z66_24, z66_25, z66_27, z66_30, z66_32, z66_34, z66_37, z66_38, z66_41, z66_43, z66_44, z66_47, z66_48, z66_51, z66_53, z66_54, z66_56, z66_58, z66_59, z66_62, z66_64, z66_66, z66_69, z66_70, z66_71, z66_72, z66_75, z66_76, z66_79, z66_82, z66_84, z66_85, z66_88, z66_91, z66_93, Option.bind_some, Option.toList_some, Option.toList_none, List.cons_append, List.nil_append, sc_i, sc_r, sc_l, sc_u, sc_s, List.length_nil, List.length_cons, Nat.reduceAdd, Nat.reduceLeDiff, Nat.zero_le, le4_0, le4_1, le4_2, le4_3, rz0, rz1, rzt, eq_self, tI_0, tI_n0, if_true, if_false, ne_eq, not_true_eq_false, not_false_eq_true, and_self, Bool.false_eq_true, e]
    rfl
  | succ n ih =>
    intro k hk v6 v7 h6 h7
    have hk10 : k < 10 := by omega
    have e : ¬ nI k ≥ 10 := i32_nle.mpr (by rw [show (10 : Int32) = nI 10 from rfl]; exact nI_lt (by omega) (by decide))
    obtain ⟨t1, t2⟩ := tb_k s hs k hk10
    obtain ⟨o1, o2, -⟩ := oIO_k (pcN s) (by have := (pc_k s hs).2; omega) left hl
    rw [z66_17, upP, lsP]
    by_cases c1 : nI k = last
    · subst c1
      cases hb : Nat.testBit s k with
      | true =>
        rw [hb] at t1
        simp only [z66_0, z66_2, z66_3, z66_5, z66_8, z66_11, z66_13, z66_14, z66_15, z66_19, z66_21, z66_24, z66_25, z66_27, z66_30, z66_32, z66_34, z66_37, z66_38, z66_41, z66_43, z66_44, z66_47, z66_48, z66_51, z66_53, z66_54, z66_56, z66_58, z66_59, z66_62, z66_64, z66_66, z66_69, z66_70, z66_71, z66_72, z66_75, z66_76, z66_79, z66_82, z66_84, z66_85, z66_88, z66_91, z66_93, Option.bind_some, Option.toList_some, Option.toList_none, List.cons_append, List.nil_append, sc_i, sc_r, sc_l, sc_u, sc_s, List.length_nil, List.length_cons, Nat.reduceAdd, Nat.reduceLeDiff, Nat.zero_le, le4_0, le4_1, le4_2, le4_3, rz0, rz1, rzt, eq_self, fo_f, fo_a, fo_j, co_f, co_a, co_j, ao_f, ao_a, ao_j, zo_f, zo_a, zo_j, jo_f, jo_a, jo_j, al_f, al_a, al_j, fg_a, fg_j, ag_f, ag_j, jg_f, jg_a, fk_f, fk_a, fk_j, fi_a, fi_j, tI_0, tI_n0, if_true, if_false, ne_eq, not_true_eq_false, not_false_eq_true, and_self, Bool.false_eq_true, e, h6, h7, x_isOfN2 hk10, t1, oc30 h0, of30_0 h0, og30_0 h0, of30_1 h0, og30_1 h0, of30_2 h0, og30_2 h0, of30_3 h0, og30_3 h0, oa33 h0, ol33 h0, oa34 h0, ol34 h0, b10 hl, c10 hl, decide_true, Bool.not_true, Bool.false_and, nI_1]
        rw [ih (k + 1) (by omega) _ _ sc_i sc_i]
      | false =>
        rw [hb] at t1
        simp only [z66_0, z66_2, z66_3, z66_5, z66_8, z66_11, z66_13, z66_14, z66_15, z66_19, z66_21, z66_24, z66_25, z66_27, z66_30, z66_32, z66_34, z66_37, z66_38, z66_41, z66_43, z66_44, z66_47, z66_48, z66_51, z66_53, z66_54, z66_56, z66_58, z66_59, z66_62, z66_64, z66_66, z66_69, z66_70, z66_71, z66_72, z66_75, z66_76, z66_79, z66_82, z66_84, z66_85, z66_88, z66_91, z66_93, Option.bind_some, Option.toList_some, Option.toList_none, List.cons_append, List.nil_append, sc_i, sc_r, sc_l, sc_u, sc_s, List.length_nil, List.length_cons, Nat.reduceAdd, Nat.reduceLeDiff, Nat.zero_le, le4_0, le4_1, le4_2, le4_3, rz0, rz1, rzt, eq_self, fo_f, fo_a, fo_j, co_f, co_a, co_j, ao_f, ao_a, ao_j, zo_f, zo_a, zo_j, jo_f, jo_a, jo_j, al_f, al_a, al_j, fg_a, fg_j, ag_f, ag_j, jg_f, jg_a, fk_f, fk_a, fk_j, fi_a, fi_j, tI_0, tI_n0, if_true, if_false, ne_eq, not_true_eq_false, not_false_eq_true, and_self, Bool.false_eq_true, e, h6, h7, x_isOfN2 hk10, t1, oc30 h0, of30_0 h0, og30_0 h0, of30_1 h0, og30_1 h0, of30_2 h0, og30_2 h0, of30_3 h0, og30_3 h0, oa33 h0, ol33 h0, oa34 h0, ol34 h0, b10 hl, c10 hl, decide_true, Bool.not_true, Bool.false_and, nI_1]
        rw [ih (k + 1) (by omega) _ _ sc_i sc_i]
    · cases hb : Nat.testBit s k with
      | true =>
        rw [hb] at t1
        have bk : bt s k = 1 := by unfold bt; rw [hb]; rfl
        have hc := can_o hs left (due - 1) k hk10
        unfold opn at hc
        rw [hb, if_pos rfl] at hc
        by_cases c2 : 1 ≤ due
        · have es : nI due - 1 = nI (due - 1) := pk_sub (b := 1) c2
          have tb := (tb_k _ o1 (due - 1) (by omega)).1
          rw [← hc] at tb
          cases hx : canN s left (due - 1) k with
          | true =>
            rw [hx] at tb
            simp only [z66_0, z66_2, z66_3, z66_5, z66_8, z66_11, z66_13, z66_14, z66_15, z66_19, z66_21, z66_24, z66_25, z66_27, z66_30, z66_32, z66_34, z66_37, z66_38, z66_41, z66_43, z66_44, z66_47, z66_48, z66_51, z66_53, z66_54, z66_56, z66_58, z66_59, z66_62, z66_64, z66_66, z66_69, z66_70, z66_71, z66_72, z66_75, z66_76, z66_79, z66_82, z66_84, z66_85, z66_88, z66_91, z66_93, Option.bind_some, Option.toList_some, Option.toList_none, List.cons_append, List.nil_append, sc_i, sc_r, sc_l, sc_u, sc_s, List.length_nil, List.length_cons, Nat.reduceAdd, Nat.reduceLeDiff, Nat.zero_le, le4_0, le4_1, le4_2, le4_3, rz0, rz1, rzt, eq_self, fo_f, fo_a, fo_j, co_f, co_a, co_j, ao_f, ao_a, ao_j, zo_f, zo_a, zo_j, jo_f, jo_a, jo_j, al_f, al_a, al_j, fg_a, fg_j, ag_f, ag_j, jg_f, jg_a, fk_f, fk_a, fk_j, fi_a, fi_j, tI_0, tI_n0, if_true, if_false, ne_eq, not_true_eq_false, not_false_eq_true, and_self, Bool.false_eq_true, e, h6, h7, x_isOfN2 hk10, t1, c1, oc30 h0, of30_0 h0, og30_0 h0, of30_1 h0, og30_1 h0, of30_2 h0, og30_2 h0, of30_3 h0, og30_3 h0, oa33 h0, ol33 h0, oa34 h0, ol34 h0, b10 hl, c10 hl, q1, es, x_isOfN2 (show due - 1 < 10 by omega), tb, bk, c2, hx, decide_true, decide_false, Bool.not_false, Bool.true_and, Bool.and_self]
          | false =>
            rw [hx] at tb
            simp only [z66_0, z66_2, z66_3, z66_5, z66_8, z66_11, z66_13, z66_14, z66_15, z66_19, z66_21, z66_24, z66_25, z66_27, z66_30, z66_32, z66_34, z66_37, z66_38, z66_41, z66_43, z66_44, z66_47, z66_48, z66_51, z66_53, z66_54, z66_56, z66_58, z66_59, z66_62, z66_64, z66_66, z66_69, z66_70, z66_71, z66_72, z66_75, z66_76, z66_79, z66_82, z66_84, z66_85, z66_88, z66_91, z66_93, Option.bind_some, Option.toList_some, Option.toList_none, List.cons_append, List.nil_append, sc_i, sc_r, sc_l, sc_u, sc_s, List.length_nil, List.length_cons, Nat.reduceAdd, Nat.reduceLeDiff, Nat.zero_le, le4_0, le4_1, le4_2, le4_3, rz0, rz1, rzt, eq_self, fo_f, fo_a, fo_j, co_f, co_a, co_j, ao_f, ao_a, ao_j, zo_f, zo_a, zo_j, jo_f, jo_a, jo_j, al_f, al_a, al_j, fg_a, fg_j, ag_f, ag_j, jg_f, jg_a, fk_f, fk_a, fk_j, fi_a, fi_j, tI_0, tI_n0, if_true, if_false, ne_eq, not_true_eq_false, not_false_eq_true, and_self, Bool.false_eq_true, e, h6, h7, x_isOfN2 hk10, t1, c1, oc30 h0, of30_0 h0, og30_0 h0, of30_1 h0, og30_1 h0, of30_2 h0, og30_2 h0, of30_3 h0, og30_3 h0, oa33 h0, ol33 h0, oa34 h0, ol34 h0, b10 hl, c10 hl, q1, es, x_isOfN2 (show due - 1 < 10 by omega), tb, bk, c2, hx, decide_true, decide_false, Bool.not_false, Bool.true_and, Bool.and_false, nI_1]
            rw [ih (k + 1) (by omega) _ _ sc_i sc_i]
        · have hz : due = 0 := by omega
          subst hz
          have en : nI 0 - 1 < 0 ∨ 30 < nI 0 - 1 := by decide
          simp only [z66_0, z66_2, z66_3, z66_5, z66_8, z66_11, z66_13, z66_14, z66_15, z66_19, z66_21, z66_24, z66_25, z66_27, z66_30, z66_32, z66_34, z66_37, z66_38, z66_41, z66_43, z66_44, z66_47, z66_48, z66_51, z66_53, z66_54, z66_56, z66_58, z66_59, z66_62, z66_64, z66_66, z66_69, z66_70, z66_71, z66_72, z66_75, z66_76, z66_79, z66_82, z66_84, z66_85, z66_88, z66_91, z66_93, Option.bind_some, Option.toList_some, Option.toList_none, List.cons_append, List.nil_append, sc_i, sc_r, sc_l, sc_u, sc_s, List.length_nil, List.length_cons, Nat.reduceAdd, Nat.reduceLeDiff, Nat.zero_le, le4_0, le4_1, le4_2, le4_3, rz0, rz1, rzt, eq_self, fo_f, fo_a, fo_j, co_f, co_a, co_j, ao_f, ao_a, ao_j, zo_f, zo_a, zo_j, jo_f, jo_a, jo_j, al_f, al_a, al_j, fg_a, fg_j, ag_f, ag_j, jg_f, jg_a, fk_f, fk_a, fk_j, fi_a, fi_j, tI_0, tI_n0, if_true, if_false, ne_eq, not_true_eq_false, not_false_eq_true, and_self, Bool.false_eq_true, e, h6, h7, x_isOfN2 hk10, t1, c1, oc30 h0, of30_0 h0, og30_0 h0, of30_1 h0, og30_1 h0, of30_2 h0, og30_2 h0, of30_3 h0, og30_3 h0, oa33 h0, ol33 h0, oa34 h0, ol34 h0, b10 hl, c10 hl, q1, x_isOfN en, bk, c2, decide_false, Bool.not_false, Bool.false_and, Bool.and_false, nI_1]
          rw [ih (k + 1) (by omega) _ _ sc_i sc_i]
      | false =>
        rw [hb] at t1
        have bk : bt s k = 0 := by unfold bt; rw [hb]; rfl
        have hc := can_o hs left due k hk10
        unfold opn at hc
        rw [hb, if_neg Bool.false_ne_true] at hc
        have tb := (tb_k _ o2 due hd).1
        rw [← hc] at tb
        cases hx : canN s left due k with
        | true =>
          rw [hx] at tb
          simp only [z66_0, z66_2, z66_3, z66_5, z66_8, z66_11, z66_13, z66_14, z66_15, z66_19, z66_21, z66_24, z66_25, z66_27, z66_30, z66_32, z66_34, z66_37, z66_38, z66_41, z66_43, z66_44, z66_47, z66_48, z66_51, z66_53, z66_54, z66_56, z66_58, z66_59, z66_62, z66_64, z66_66, z66_69, z66_70, z66_71, z66_72, z66_75, z66_76, z66_79, z66_82, z66_84, z66_85, z66_88, z66_91, z66_93, Option.bind_some, Option.toList_some, Option.toList_none, List.cons_append, List.nil_append, sc_i, sc_r, sc_l, sc_u, sc_s, List.length_nil, List.length_cons, Nat.reduceAdd, Nat.reduceLeDiff, Nat.zero_le, le4_0, le4_1, le4_2, le4_3, rz0, rz1, rzt, eq_self, fo_f, fo_a, fo_j, co_f, co_a, co_j, ao_f, ao_a, ao_j, zo_f, zo_a, zo_j, jo_f, jo_a, jo_j, al_f, al_a, al_j, fg_a, fg_j, ag_f, ag_j, jg_f, jg_a, fk_f, fk_a, fk_j, fi_a, fi_j, tI_0, tI_n0, if_true, if_false, ne_eq, not_true_eq_false, not_false_eq_true, and_self, Bool.false_eq_true, e, h6, h7, x_isOfN2 hk10, t1, c1, oc30 h0, of30_0 h0, og30_0 h0, of30_1 h0, og30_1 h0, of30_2 h0, og30_2 h0, of30_3 h0, og30_3 h0, oa33 h0, ol33 h0, oa34 h0, ol34 h0, b10 hl, c10 hl, q2, x_isOfN2 hd, tb, bk, Nat.zero_le, Nat.sub_zero, hx, decide_true, decide_false, Bool.not_false, Bool.true_and, Bool.and_self]
        | false =>
          rw [hx] at tb
          simp only [z66_0, z66_2, z66_3, z66_5, z66_8, z66_11, z66_13, z66_14, z66_15, z66_19, z66_21, z66_24, z66_25, z66_27, z66_30, z66_32, z66_34, z66_37, z66_38, z66_41, z66_43, z66_44, z66_47, z66_48, z66_51, z66_53, z66_54, z66_56, z66_58, z66_59, z66_62, z66_64, z66_66, z66_69, z66_70, z66_71, z66_72, z66_75, z66_76, z66_79, z66_82, z66_84, z66_85, z66_88, z66_91, z66_93, Option.bind_some, Option.toList_some, Option.toList_none, List.cons_append, List.nil_append, sc_i, sc_r, sc_l, sc_u, sc_s, List.length_nil, List.length_cons, Nat.reduceAdd, Nat.reduceLeDiff, Nat.zero_le, le4_0, le4_1, le4_2, le4_3, rz0, rz1, rzt, eq_self, fo_f, fo_a, fo_j, co_f, co_a, co_j, ao_f, ao_a, ao_j, zo_f, zo_a, zo_j, jo_f, jo_a, jo_j, al_f, al_a, al_j, fg_a, fg_j, ag_f, ag_j, jg_f, jg_a, fk_f, fk_a, fk_j, fi_a, fi_j, tI_0, tI_n0, if_true, if_false, ne_eq, not_true_eq_false, not_false_eq_true, and_self, Bool.false_eq_true, e, h6, h7, x_isOfN2 hk10, t1, c1, oc30 h0, of30_0 h0, og30_0 h0, of30_1 h0, og30_1 h0, of30_2 h0, og30_2 h0, of30_3 h0, og30_3 h0, oa33 h0, ol33 h0, oa34 h0, ol34 h0, b10 hl, c10 hl, q2, x_isOfN2 hd, tb, bk, Nat.zero_le, Nat.sub_zero, hx, decide_true, decide_false, Bool.not_false, Bool.true_and, Bool.and_false, nI_1]
          rw [ih (k + 1) (by omega) _ _ sc_i sc_i]
theorem x_leastLetter {X : Scr} {w : AW} {s due left : Nat} {last : Int32} (hs : s < 1024) (hd : due < 10) (hl : left < 10) (ow : OW w (pcN s) 10) : Z X 66 0 [.ref 30, .int (nI s), .int last, .int (nI due), .int (nI left), uns, uns, uns] [] w = some (some (.int (upP (lsP s left last due) 10 0)), w) := by
  have h1 := x_leastL (X := X) (last := last) hs hd hl ow 10 0 rfl uns uns sc_u sc_u
  have z0 : nI 0 = 0 := rfl
  have k9 : (0 : Int32) ≤ nI left ∧ nI left ≤ 9 := ⟨nI_pos' (by omega), by rw [show (9 : Int32) = nI 9 from rfl]; exact nI_le (by omega) (by decide)⟩
  rw [z0] at h1
  simp only [z66_0, z66_2, z66_3, z66_5, z66_8, z66_11, z66_13, z66_14, z66_15, z66_19, z66_21, z66_24, z66_25, z66_27, z66_30, z66_32, z66_34, z66_37, z66_38, z66_41, z66_43, z66_44, z66_47, z66_48, z66_51, z66_53, z66_54, z66_56, z66_58, z66_59, z66_62, z66_64, z66_66, z66_69, z66_70, z66_71, z66_72, z66_75, z66_76, z66_79, z66_82, z66_84, z66_85, z66_88, z66_91, z66_93, Option.bind_some, Option.toList_some, Option.toList_none, List.cons_append, List.nil_append, sc_i, sc_r, sc_l, sc_u, sc_s, List.length_nil, List.length_cons, Nat.reduceAdd, Nat.reduceLeDiff, Nat.zero_le, le4_0, le4_1, le4_2, le4_3, rz0, rz1, rzt, eq_self, tI_0, tI_n0, if_true, if_false, ne_eq, not_true_eq_false, not_false_eq_true, and_self, Bool.false_eq_true, x_isIn, k9, h1]
theorem x_lsT {X : Scr} {w : AW} {s : Nat} {v2 v3 : Value} (hs : s < 1024) (ow : OW w (pcN s) 10) : ∀ (c : Nat), c < 10 → ∀ (dg last : Int32) (due : Nat), due < 10 → Z X 64 36 [.ref 30, .int (nI s), v2, v3, .int dg, .int last, .int (nI due), .int (nI c + -1)] [] w = some (some (.int (lsN s c dg last due)), w) := by
  have h0 := ow.1
  intro c
  induction c with
  | zero =>
    intro hc dg last due hd
    have e : nI 0 + -1 < 0 := by decide
    rw [z64_36]
    simp only [z64_0, z64_1, z64_2, z64_4, z64_7, z64_10, z64_12, z64_13, z64_14, z64_15, z64_18, z64_21, z64_22, z64_24, z64_26, z64_28, z64_29, z64_31, z64_32, z64_33, z64_34, z64_38, z64_41, z64_42, z64_43, z64_45, z64_47, z64_49, z64_52, z64_54, z64_56, z64_58, z64_61, z64_63, z64_64, z64_65, z64_67, z64_70, z64_73, z64_76, z64_78, z64_80, z64_81, z64_83, z64_84, z64_86, z64_89, z64_92, z64_94, Option.bind_some, Option.toList_some, Option.toList_none, List.cons_append, List.nil_append, sc_i, sc_r, sc_l, sc_u, sc_s, List.length_nil, List.length_cons, Nat.reduceAdd, Nat.reduceLeDiff, Nat.zero_le, le4_0, le4_1, le4_2, le4_3, rz0, rz1, rzt, eq_self, tI_0, tI_n0, if_true, if_false, ne_eq, not_true_eq_false, not_false_eq_true, and_self, Bool.false_eq_true, e]
    rfl
  | succ c ih =>
    intro hc dg last due hd
    have e : ¬ nI c < 0 := nI_pos (by omega)
    rw [nI_m1, z64_36, lsN]
    rcases upP_r (P := lsP s c last due) 10 0 with q | ⟨d, h1, h2, h3, h4⟩
    · have hL := x_leastLetter (X := X) (last := last) hs hd (show c < 10 by omega) ow
      rw [q] at hL
      rw [if_pos q]
      simp only [z64_0, z64_1, z64_2, z64_4, z64_7, z64_10, z64_12, z64_13, z64_14, z64_15, z64_18, z64_21, z64_22, z64_24, z64_26, z64_28, z64_29, z64_31, z64_32, z64_33, z64_34, z64_38, z64_41, z64_42, z64_43, z64_45, z64_47, z64_49, z64_52, z64_54, z64_56, z64_58, z64_61, z64_63, z64_64, z64_65, z64_67, z64_70, z64_73, z64_76, z64_78, z64_80, z64_81, z64_83, z64_84, z64_86, z64_89, z64_92, z64_94, Option.bind_some, Option.toList_some, Option.toList_none, List.cons_append, List.nil_append, sc_i, sc_r, sc_l, sc_u, sc_s, List.length_nil, List.length_cons, Nat.reduceAdd, Nat.reduceLeDiff, Nat.zero_le, le4_0, le4_1, le4_2, le4_3, rz0, rz1, rzt, eq_self, tI_0, tI_n0, if_true, if_false, ne_eq, not_true_eq_false, not_false_eq_true, and_self, Bool.false_eq_true, e, oc30 h0, of30_0 h0, og30_0 h0, of30_1 h0, og30_1 h0, of30_2 h0, og30_2 h0, of30_3 h0, og30_3 h0, hL]
    · have hL := x_leastLetter (X := X) (last := last) hs hd (show c < 10 by omega) ow
      rw [h3] at hL
      have hd10 : d < 10 := by omega
      have n6 := nI_n6 (show d < 1000 by omega)
      rw [h3, if_neg n6, c10 hd10]
      unfold lsP at h4
      rw [Bool.and_eq_true, Bool.and_eq_true, decide_eq_true_iff] at h4
      have t1 := (tb_k s hs d hd10).1
      cases hb : Nat.testBit s d with
      | true =>
        rw [hb] at t1
        have bk : bt s d = 1 := by unfold bt; rw [hb]; rfl
        rw [bk] at h4 ⊢
        have es : nI due + -1 = nI (due - 1) := by
          obtain ⟨y, rfl⟩ : ∃ y, due = y + 1 := ⟨due - 1, by omega⟩
          rw [nI_m1]; rfl
        have i1 := ih (by omega) (10 * dg + nI d) (nI d) (due - 1) (by omega)
        simp only [z64_0, z64_1, z64_2, z64_4, z64_7, z64_10, z64_12, z64_13, z64_14, z64_15, z64_18, z64_21, z64_22, z64_24, z64_26, z64_28, z64_29, z64_31, z64_32, z64_33, z64_34, z64_38, z64_41, z64_42, z64_43, z64_45, z64_47, z64_49, z64_52, z64_54, z64_56, z64_58, z64_61, z64_63, z64_64, z64_65, z64_67, z64_70, z64_73, z64_76, z64_78, z64_80, z64_81, z64_83, z64_84, z64_86, z64_89, z64_92, z64_94, Option.bind_some, Option.toList_some, Option.toList_none, List.cons_append, List.nil_append, sc_i, sc_r, sc_l, sc_u, sc_s, List.length_nil, List.length_cons, Nat.reduceAdd, Nat.reduceLeDiff, Nat.zero_le, le4_0, le4_1, le4_2, le4_3, rz0, rz1, rzt, eq_self, tI_0, tI_n0, if_true, if_false, ne_eq, not_true_eq_false, not_false_eq_true, and_self, Bool.false_eq_true, e, oc30 h0, of30_0 h0, og30_0 h0, of30_1 h0, og30_1 h0, of30_2 h0, og30_2 h0, of30_3 h0, og30_3 h0, hL, n6, x_isOfN2 hd10, t1, es, i1]
      | false =>
        rw [hb] at t1
        have bk : bt s d = 0 := by unfold bt; rw [hb]; rfl
        rw [bk, Nat.sub_zero]
        have i1 := ih (by omega) (10 * dg + nI d) (nI d) due hd
        simp only [z64_0, z64_1, z64_2, z64_4, z64_7, z64_10, z64_12, z64_13, z64_14, z64_15, z64_18, z64_21, z64_22, z64_24, z64_26, z64_28, z64_29, z64_31, z64_32, z64_33, z64_34, z64_38, z64_41, z64_42, z64_43, z64_45, z64_47, z64_49, z64_52, z64_54, z64_56, z64_58, z64_61, z64_63, z64_64, z64_65, z64_67, z64_70, z64_73, z64_76, z64_78, z64_80, z64_81, z64_83, z64_84, z64_86, z64_89, z64_92, z64_94, Option.bind_some, Option.toList_some, Option.toList_none, List.cons_append, List.nil_append, sc_i, sc_r, sc_l, sc_u, sc_s, List.length_nil, List.length_cons, Nat.reduceAdd, Nat.reduceLeDiff, Nat.zero_le, le4_0, le4_1, le4_2, le4_3, rz0, rz1, rzt, eq_self, tI_0, tI_n0, if_true, if_false, ne_eq, not_true_eq_false, not_false_eq_true, and_self, Bool.false_eq_true, e, oc30 h0, of30_0 h0, og30_0 h0, of30_1 h0, og30_1 h0, of30_2 h0, og30_2 h0, of30_3 h0, og30_3 h0, hL, n6, x_isOfN2 hd10, t1, i1]
theorem x_lsOne {X : Scr} {w : AW} {s n k : Nat} (h0 : OK w) (hs : s < 1024) (hn1 : 1 ≤ n) (hn : n ≤ 9) (hk : k ≤ n) : ∃ w', Z X 64 0 [.ref 30, .int (nI s), .int (nI n), .int (nI k), uns, uns, uns, uns] [] w = some (some (.int (lsN s n 0 (-6) k)), w') ∧ OK w' ∧ same w w' := by
  obtain ⟨p1, p2⟩ := pc_k s hs
  obtain ⟨w', r1, r2, r3⟩ := x_open (X := X) (w := w) (show pcN s < 11 by omega) h0
  have h1 := x_lsT (X := X) (v2 := .int (nI n)) (v3 := .int (nI k)) hs r2 n (by omega) 0 (-6) k (by omega)
  have kn : (1 : Int32) ≤ nI n ∧ nI n ≤ 9 := ⟨by rw [show (1 : Int32) = nI 1 from rfl]; exact nI_le (by omega) (by omega), by rw [show (9 : Int32) = nI 9 from rfl]; exact nI_le (by omega) (by decide)⟩
  have es : nI n - 1 = nI n + -1 := by
    obtain ⟨m, rfl⟩ : ∃ m, n = m + 1 := ⟨n - 1, by omega⟩
    rw [nI_m1]
    exact pk_sub (b := 1) (by omega)
  refine ⟨w', ?_, r2.1, r3⟩
  have okw := r2.1
  simp only [z64_0, z64_1, z64_2, z64_4, z64_7, z64_10, z64_12, z64_13, z64_14, z64_15, z64_18, z64_21, z64_22, z64_24, z64_26, z64_28, z64_29, z64_31, z64_32, z64_33, z64_34, z64_38, z64_41, z64_42, z64_43, z64_45, z64_47, z64_49, z64_52, z64_54, z64_56, z64_58, z64_61, z64_63, z64_64, z64_65, z64_67, z64_70, z64_73, z64_76, z64_78, z64_80, z64_81, z64_83, z64_84, z64_86, z64_89, z64_92, z64_94, Option.bind_some, Option.toList_some, Option.toList_none, List.cons_append, List.nil_append, sc_i, sc_r, sc_l, sc_u, sc_s, List.length_nil, List.length_cons, Nat.reduceAdd, Nat.reduceLeDiff, Nat.zero_le, le4_0, le4_1, le4_2, le4_3, rz0, rz1, rzt, eq_self, tI_0, tI_n0, if_true, if_false, ne_eq, not_true_eq_false, not_false_eq_true, and_self, Bool.false_eq_true, x_isIn, kn, x_bitc, p1, oc30 h0, of30_0 h0, og30_0 h0, of30_1 h0, og30_1 h0, of30_2 h0, og30_2 h0, of30_3 h0, og30_3 h0, r1, es, h1]
