/-! fault: the class -/
def dueN : Nat → Int32 → Nat
  | 0, x => if x = 33 then 0 else if 65 ≤ x ∧ x ≤ 72 then 1 else 5
  | 1, x => if x = 62 then 2 else if x = 34 then 3 else if x = 61 then 0 else if x = 43 then 0 else 5
  | 2, x => if 65 ≤ x ∧ x ≤ 72 then 0 else 5
  | 3, x => if 97 ≤ x ∧ x ≤ 106 then 4 else 5
  | _ + 4, x => if 97 ≤ x ∧ x ≤ 106 then 4 else if x = 34 then 0 else 5
theorem due_le : ∀ (d : Nat) (x : Int32), dueN d x ≤ 5 := by
  intro d x
  match d with
  | 0 => rw [dueN]; split <;> (try split) <;> omega
  | 1 => rw [dueN]; split <;> (try split) <;> (try split) <;> (try split) <;> omega
  | 2 => rw [dueN]; split <;> omega
  | 3 => rw [dueN]; split <;> omega
  | d + 4 => rw [dueN]; split <;> (try split) <;> omega
def sg (g : Nat → Int32) (c p : Nat) : Int32 := if p < c then g p else 0
theorem sg_in {g : Nat → Int32} {c p : Nat} (h : p < c) : sg g c p = g p := if_pos h
theorem b60 {j : Nat} (hj : j < 60) : inB (nI j) 60 = true := inB_nI hj (by decide)
theorem c60 {j : Nat} (hj : j < 60) : (nI j).toNatClampNeg = j := nI_clamp (by omega)
theorem x_sign {X : Scr} {w : AW} {c p : Nat} (h0 : OK w) (hc : c ≤ 60) (hp : p < 1000) (h1 : fI w 11 1 = nI c) : Z X 25 0 [.ref 11, .int (nI p)] [] w = some (some (.int (sg (aget w 12) c p)), w) := by
  unfold sg
  by_cases e : p < c
  · have e' : ¬ c ≤ p := by omega
    have k0 : ¬ nI p < 0 := i32_nlt.mpr (nI_pos' (by omega))
    have k60 : ¬ nI p ≥ 60 := i32_nle.mpr (by rw [show (60 : Int32) = nI 60 from rfl]; exact nI_lt (by omega) (by decide))
    simp only [z25_0, z25_1, z25_4, z25_5, z25_6, z25_9, z25_12, z25_13, z25_15, z25_18, z25_19, z25_22, z25_23, z25_24, z25_27, z25_28, Option.bind_some, Option.toList_some, Option.toList_none, List.cons_append, List.nil_append, sc_i, sc_r, sc_l, sc_u, sc_s, List.length_nil, List.length_cons, Nat.reduceAdd, Nat.reduceLeDiff, Nat.zero_le, le4_0, le4_1, le4_2, le4_3, rz0, rz1, rzt, eq_self, fo_f, fo_a, fo_j, co_f, co_a, co_j, ao_f, ao_a, ao_j, zo_f, zo_a, zo_j, jo_f, jo_a, jo_j, al_f, al_a, al_j, fg_a, fg_j, ag_f, ag_j, jg_f, jg_a, fk_f, fk_a, fk_j, fi_a, fi_j, tI_0, tI_n0, if_true, if_false, ne_eq, not_true_eq_false, not_false_eq_true, and_self, Bool.false_eq_true, oc11 h0, of11_0 h0, og11_0 h0, of11_1 h0, og11_1 h0, ok11_1 h0, oa12 h0, ol12 h0, h1, geN hp (show c < 1000 by omega), e, e', k0, k60, b60 (show p < 60 by omega), c60 (show p < 60 by omega)]
  · have e' : c ≤ p := by omega
    have k0 : ¬ nI p < 0 := i32_nlt.mpr (nI_pos' (by omega))
    simp only [z25_0, z25_1, z25_4, z25_5, z25_6, z25_9, z25_12, z25_13, z25_15, z25_18, z25_19, z25_22, z25_23, z25_24, z25_27, z25_28, Option.bind_some, Option.toList_some, Option.toList_none, List.cons_append, List.nil_append, sc_i, sc_r, sc_l, sc_u, sc_s, List.length_nil, List.length_cons, Nat.reduceAdd, Nat.reduceLeDiff, Nat.zero_le, le4_0, le4_1, le4_2, le4_3, rz0, rz1, rzt, eq_self, fo_f, fo_a, fo_j, co_f, co_a, co_j, ao_f, ao_a, ao_j, zo_f, zo_a, zo_j, jo_f, jo_a, jo_j, al_f, al_a, al_j, fg_a, fg_j, ag_f, ag_j, jg_f, jg_a, fk_f, fk_a, fk_j, fi_a, fi_j, tI_0, tI_n0, if_true, if_false, ne_eq, not_true_eq_false, not_false_eq_true, and_self, Bool.false_eq_true, oc11 h0, of11_0 h0, og11_0 h0, of11_1 h0, og11_1 h0, ok11_1 h0, oa12 h0, ol12 h0, h1, geN hp (show c < 1000 by omega), e, e', k0]
theorem x_verb {X : Scr} {w : AW} {x : Int32} : Z X 27 0 [.int x] [] w = some (some (.int (nI (dueN 1 x))), w) := by
  rw [dueN]
  have z2 : nI 2 = 2 := rfl
  have z3 : nI 3 = 3 := rfl
  have z0 : nI 0 = 0 := rfl
  have z5 : nI 5 = 5 := rfl
  by_cases h1 : x = 62
  · subst h1; simp only [z27_0, z27_1c0, z27_1c1, z27_1c2, z27_1c3, z27_1d, z27_44, z27_45, z27_46, z27_47, z27_48, z27_49, z27_50, z27_51, Option.bind_some, Option.toList_some, Option.toList_none, List.cons_append, List.nil_append, sc_i, sc_r, sc_l, sc_u, sc_s, List.length_nil, List.length_cons, Nat.reduceAdd, Nat.reduceLeDiff, Nat.zero_le, le4_0, le4_1, le4_2, le4_3, rz0, rz1, rzt, eq_self, tI_0, tI_n0, if_true, if_false, ne_eq, not_true_eq_false, not_false_eq_true, and_self, Bool.false_eq_true, z2]
  · by_cases h2 : x = 34
    · subst h2; simp only [z27_0, z27_1c0, z27_1c1, z27_1c2, z27_1c3, z27_1d, z27_44, z27_45, z27_46, z27_47, z27_48, z27_49, z27_50, z27_51, Option.bind_some, Option.toList_some, Option.toList_none, List.cons_append, List.nil_append, sc_i, sc_r, sc_l, sc_u, sc_s, List.length_nil, List.length_cons, Nat.reduceAdd, Nat.reduceLeDiff, Nat.zero_le, le4_0, le4_1, le4_2, le4_3, rz0, rz1, rzt, eq_self, tI_0, tI_n0, if_true, if_false, ne_eq, not_true_eq_false, not_false_eq_true, and_self, Bool.false_eq_true, h1, z3]
    · by_cases h3 : x = 61
      · subst h3; simp only [z27_0, z27_1c0, z27_1c1, z27_1c2, z27_1c3, z27_1d, z27_44, z27_45, z27_46, z27_47, z27_48, z27_49, z27_50, z27_51, Option.bind_some, Option.toList_some, Option.toList_none, List.cons_append, List.nil_append, sc_i, sc_r, sc_l, sc_u, sc_s, List.length_nil, List.length_cons, Nat.reduceAdd, Nat.reduceLeDiff, Nat.zero_le, le4_0, le4_1, le4_2, le4_3, rz0, rz1, rzt, eq_self, tI_0, tI_n0, if_true, if_false, ne_eq, not_true_eq_false, not_false_eq_true, and_self, Bool.false_eq_true, h1, h2, z0]
      · by_cases h4 : x = 43
        · subst h4; simp only [z27_0, z27_1c0, z27_1c1, z27_1c2, z27_1c3, z27_1d, z27_44, z27_45, z27_46, z27_47, z27_48, z27_49, z27_50, z27_51, Option.bind_some, Option.toList_some, Option.toList_none, List.cons_append, List.nil_append, sc_i, sc_r, sc_l, sc_u, sc_s, List.length_nil, List.length_cons, Nat.reduceAdd, Nat.reduceLeDiff, Nat.zero_le, le4_0, le4_1, le4_2, le4_3, rz0, rz1, rzt, eq_self, tI_0, tI_n0, if_true, if_false, ne_eq, not_true_eq_false, not_false_eq_true, and_self, Bool.false_eq_true, h1, h2, h3, z0]
        · simp only [z27_0, z27_1c0, z27_1c1, z27_1c2, z27_1c3, z27_1d, z27_44, z27_45, z27_46, z27_47, z27_48, z27_49, z27_50, z27_51, Option.bind_some, Option.toList_some, Option.toList_none, List.cons_append, List.nil_append, sc_i, sc_r, sc_l, sc_u, sc_s, List.length_nil, List.length_cons, Nat.reduceAdd, Nat.reduceLeDiff, Nat.zero_le, le4_0, le4_1, le4_2, le4_3, rz0, rz1, rzt, eq_self, tI_0, tI_n0, if_true, if_false, ne_eq, not_true_eq_false, not_false_eq_true, and_self, Bool.false_eq_true, h1, h2, h3, h4, z5]
theorem x_due {X : Scr} {w : AW} {d : Nat} {x : Int32} (hd : d ≤ 4) : Z X 26 0 [.int (nI d), .int x, uns, uns] [] w = some (some (.int (nI (dueN d x))), w) := by
  have z0 : nI 0 = 0 := rfl
  have z1 : nI 1 = 1 := rfl
  have z2 : nI 2 = 2 := rfl
  have z3 : nI 3 = 3 := rfl
  have z4 : nI 4 = 4 := rfl
  have z5 : nI 5 = 5 := rfl
  match d, hd with
  | 0, _ =>
    rw [dueN]
    by_cases h1 : x = 33
    · simp only [z26_0, z26_1, z26_3, z26_5, z26_8, z26_9, z26_10, z26_12, z26_14, z26_17, z26_18, z26_19c0, z26_19c1, z26_19c2, z26_19c3, z26_19c4, z26_19d, z26_52, z26_53, z26_55, z26_58, z26_59, z26_62, z26_63, z26_66, z26_67, z26_70, z26_71, z26_72, z26_73, z26_76, z26_77, z26_78, z26_81, z26_82, z26_85, z26_86, z26_87, z26_88, z26_91, z26_92, z26_95, z26_96, z26_97, z26_98, z26_101, z26_102, z26_105, z26_106, z26_108, z26_111, z26_112, z26_115, z26_116, z26_117, z26_118, Option.bind_some, Option.toList_some, Option.toList_none, List.cons_append, List.nil_append, sc_i, sc_r, sc_l, sc_u, sc_s, List.length_nil, List.length_cons, Nat.reduceAdd, Nat.reduceLeDiff, Nat.zero_le, le4_0, le4_1, le4_2, le4_3, rz0, rz1, rzt, eq_self, tI_0, tI_n0, if_true, if_false, ne_eq, not_true_eq_false, not_false_eq_true, and_self, Bool.false_eq_true, x_isIn, z0, h1]
    · by_cases h2 : 65 ≤ x ∧ x ≤ 72
      · simp only [z26_0, z26_1, z26_3, z26_5, z26_8, z26_9, z26_10, z26_12, z26_14, z26_17, z26_18, z26_19c0, z26_19c1, z26_19c2, z26_19c3, z26_19c4, z26_19d, z26_52, z26_53, z26_55, z26_58, z26_59, z26_62, z26_63, z26_66, z26_67, z26_70, z26_71, z26_72, z26_73, z26_76, z26_77, z26_78, z26_81, z26_82, z26_85, z26_86, z26_87, z26_88, z26_91, z26_92, z26_95, z26_96, z26_97, z26_98, z26_101, z26_102, z26_105, z26_106, z26_108, z26_111, z26_112, z26_115, z26_116, z26_117, z26_118, Option.bind_some, Option.toList_some, Option.toList_none, List.cons_append, List.nil_append, sc_i, sc_r, sc_l, sc_u, sc_s, List.length_nil, List.length_cons, Nat.reduceAdd, Nat.reduceLeDiff, Nat.zero_le, le4_0, le4_1, le4_2, le4_3, rz0, rz1, rzt, eq_self, tI_0, tI_n0, if_true, if_false, ne_eq, not_true_eq_false, not_false_eq_true, and_self, Bool.false_eq_true, x_isIn, z0, h1, h2, z1]
      · simp only [z26_0, z26_1, z26_3, z26_5, z26_8, z26_9, z26_10, z26_12, z26_14, z26_17, z26_18, z26_19c0, z26_19c1, z26_19c2, z26_19c3, z26_19c4, z26_19d, z26_52, z26_53, z26_55, z26_58, z26_59, z26_62, z26_63, z26_66, z26_67, z26_70, z26_71, z26_72, z26_73, z26_76, z26_77, z26_78, z26_81, z26_82, z26_85, z26_86, z26_87, z26_88, z26_91, z26_92, z26_95, z26_96, z26_97, z26_98, z26_101, z26_102, z26_105, z26_106, z26_108, z26_111, z26_112, z26_115, z26_116, z26_117, z26_118, Option.bind_some, Option.toList_some, Option.toList_none, List.cons_append, List.nil_append, sc_i, sc_r, sc_l, sc_u, sc_s, List.length_nil, List.length_cons, Nat.reduceAdd, Nat.reduceLeDiff, Nat.zero_le, le4_0, le4_1, le4_2, le4_3, rz0, rz1, rzt, eq_self, tI_0, tI_n0, if_true, if_false, ne_eq, not_true_eq_false, not_false_eq_true, and_self, Bool.false_eq_true, x_isIn, z0, h1, h2, z5]
  | 1, _ => simp only [z26_0, z26_1, z26_3, z26_5, z26_8, z26_9, z26_10, z26_12, z26_14, z26_17, z26_18, z26_19c0, z26_19c1, z26_19c2, z26_19c3, z26_19c4, z26_19d, z26_52, z26_53, z26_55, z26_58, z26_59, z26_62, z26_63, z26_66, z26_67, z26_70, z26_71, z26_72, z26_73, z26_76, z26_77, z26_78, z26_81, z26_82, z26_85, z26_86, z26_87, z26_88, z26_91, z26_92, z26_95, z26_96, z26_97, z26_98, z26_101, z26_102, z26_105, z26_106, z26_108, z26_111, z26_112, z26_115, z26_116, z26_117, z26_118, Option.bind_some, Option.toList_some, Option.toList_none, List.cons_append, List.nil_append, sc_i, sc_r, sc_l, sc_u, sc_s, List.length_nil, List.length_cons, Nat.reduceAdd, Nat.reduceLeDiff, Nat.zero_le, le4_0, le4_1, le4_2, le4_3, rz0, rz1, rzt, eq_self, tI_0, tI_n0, if_true, if_false, ne_eq, not_true_eq_false, not_false_eq_true, and_self, Bool.false_eq_true, x_isIn, z1, x_verb]
  | 2, _ =>
    rw [dueN]
    by_cases h2 : 65 ≤ x ∧ x ≤ 72
    · simp only [z26_0, z26_1, z26_3, z26_5, z26_8, z26_9, z26_10, z26_12, z26_14, z26_17, z26_18, z26_19c0, z26_19c1, z26_19c2, z26_19c3, z26_19c4, z26_19d, z26_52, z26_53, z26_55, z26_58, z26_59, z26_62, z26_63, z26_66, z26_67, z26_70, z26_71, z26_72, z26_73, z26_76, z26_77, z26_78, z26_81, z26_82, z26_85, z26_86, z26_87, z26_88, z26_91, z26_92, z26_95, z26_96, z26_97, z26_98, z26_101, z26_102, z26_105, z26_106, z26_108, z26_111, z26_112, z26_115, z26_116, z26_117, z26_118, Option.bind_some, Option.toList_some, Option.toList_none, List.cons_append, List.nil_append, sc_i, sc_r, sc_l, sc_u, sc_s, List.length_nil, List.length_cons, Nat.reduceAdd, Nat.reduceLeDiff, Nat.zero_le, le4_0, le4_1, le4_2, le4_3, rz0, rz1, rzt, eq_self, tI_0, tI_n0, if_true, if_false, ne_eq, not_true_eq_false, not_false_eq_true, and_self, Bool.false_eq_true, x_isIn, z2, h2, z0]
    · simp only [z26_0, z26_1, z26_3, z26_5, z26_8, z26_9, z26_10, z26_12, z26_14, z26_17, z26_18, z26_19c0, z26_19c1, z26_19c2, z26_19c3, z26_19c4, z26_19d, z26_52, z26_53, z26_55, z26_58, z26_59, z26_62, z26_63, z26_66, z26_67, z26_70, z26_71, z26_72, z26_73, z26_76, z26_77, z26_78, z26_81, z26_82, z26_85, z26_86, z26_87, z26_88, z26_91, z26_92, z26_95, z26_96, z26_97, z26_98, z26_101, z26_102, z26_105, z26_106, z26_108, z26_111, z26_112, z26_115, z26_116, z26_117, z26_118, Option.bind_some, Option.toList_some, Option.toList_none, List.cons_append, List.nil_append, sc_i, sc_r, sc_l, sc_u, sc_s, List.length_nil, List.length_cons, Nat.reduceAdd, Nat.reduceLeDiff, Nat.zero_le, le4_0, le4_1, le4_2, le4_3, rz0, rz1, rzt, eq_self, tI_0, tI_n0, if_true, if_false, ne_eq, not_true_eq_false, not_false_eq_true, and_self, Bool.false_eq_true, x_isIn, z2, h2, z5]
  | 3, _ =>
    rw [dueN]
    by_cases h2 : 97 ≤ x ∧ x ≤ 106
    · simp only [z26_0, z26_1, z26_3, z26_5, z26_8, z26_9, z26_10, z26_12, z26_14, z26_17, z26_18, z26_19c0, z26_19c1, z26_19c2, z26_19c3, z26_19c4, z26_19d, z26_52, z26_53, z26_55, z26_58, z26_59, z26_62, z26_63, z26_66, z26_67, z26_70, z26_71, z26_72, z26_73, z26_76, z26_77, z26_78, z26_81, z26_82, z26_85, z26_86, z26_87, z26_88, z26_91, z26_92, z26_95, z26_96, z26_97, z26_98, z26_101, z26_102, z26_105, z26_106, z26_108, z26_111, z26_112, z26_115, z26_116, z26_117, z26_118, Option.bind_some, Option.toList_some, Option.toList_none, List.cons_append, List.nil_append, sc_i, sc_r, sc_l, sc_u, sc_s, List.length_nil, List.length_cons, Nat.reduceAdd, Nat.reduceLeDiff, Nat.zero_le, le4_0, le4_1, le4_2, le4_3, rz0, rz1, rzt, eq_self, tI_0, tI_n0, if_true, if_false, ne_eq, not_true_eq_false, not_false_eq_true, and_self, Bool.false_eq_true, x_isIn, z3, h2, z4]
    · simp only [z26_0, z26_1, z26_3, z26_5, z26_8, z26_9, z26_10, z26_12, z26_14, z26_17, z26_18, z26_19c0, z26_19c1, z26_19c2, z26_19c3, z26_19c4, z26_19d, z26_52, z26_53, z26_55, z26_58, z26_59, z26_62, z26_63, z26_66, z26_67, z26_70, z26_71, z26_72, z26_73, z26_76, z26_77, z26_78, z26_81, z26_82, z26_85, z26_86, z26_87, z26_88, z26_91, z26_92, z26_95, z26_96, z26_97, z26_98, z26_101, z26_102, z26_105, z26_106, z26_108, z26_111, z26_112, z26_115, z26_116, z26_117, z26_118, Option.bind_some, Option.toList_some, Option.toList_none, List.cons_append, List.nil_append, sc_i, sc_r, sc_l, sc_u, sc_s, List.length_nil, List.length_cons, Nat.reduceAdd, Nat.reduceLeDiff, Nat.zero_le, le4_0, le4_1, le4_2, le4_3, rz0, rz1, rzt, eq_self, tI_0, tI_n0, if_true, if_false, ne_eq, not_true_eq_false, not_false_eq_true, and_self, Bool.false_eq_true, x_isIn, z3, h2, z5]
  | 4, _ =>
    rw [dueN]
    by_cases h2 : 97 ≤ x ∧ x ≤ 106
    · simp only [z26_0, z26_1, z26_3, z26_5, z26_8, z26_9, z26_10, z26_12, z26_14, z26_17, z26_18, z26_19c0, z26_19c1, z26_19c2, z26_19c3, z26_19c4, z26_19d, z26_52, z26_53, z26_55, z26_58, z26_59, z26_62, z26_63, z26_66, z26_67, z26_70, z26_71, z26_72, z26_73, z26_76, z26_77, z26_78, z26_81, z26_82, z26_85, z26_86, z26_87, z26_88, z26_91, z26_92, z26_95, z26_96, z26_97, z26_98, z26_101, z26_102, z26_105, z26_106, z26_108, z26_111, z26_112, z26_115, z26_116, z26_117, z26_118, Option.bind_some, Option.toList_some, Option.toList_none, List.cons_append, List.nil_append, sc_i, sc_r, sc_l, sc_u, sc_s, List.length_nil, List.length_cons, Nat.reduceAdd, Nat.reduceLeDiff, Nat.zero_le, le4_0, le4_1, le4_2, le4_3, rz0, rz1, rzt, eq_self, tI_0, tI_n0, if_true, if_false, ne_eq, not_true_eq_false, not_false_eq_true, and_self, Bool.false_eq_true, x_isIn, z4, h2]
    · by_cases h1 : x = 34
      · subst h1
        have h3 : ¬ ((97 : Int32) ≤ 34 ∧ (34 : Int32) ≤ 106) := by decide
        simp only [z26_0, z26_1, z26_3, z26_5, z26_8, z26_9, z26_10, z26_12, z26_14, z26_17, z26_18, z26_19c0, z26_19c1, z26_19c2, z26_19c3, z26_19c4, z26_19d, z26_52, z26_53, z26_55, z26_58, z26_59, z26_62, z26_63, z26_66, z26_67, z26_70, z26_71, z26_72, z26_73, z26_76, z26_77, z26_78, z26_81, z26_82, z26_85, z26_86, z26_87, z26_88, z26_91, z26_92, z26_95, z26_96, z26_97, z26_98, z26_101, z26_102, z26_105, z26_106, z26_108, z26_111, z26_112, z26_115, z26_116, z26_117, z26_118, Option.bind_some, Option.toList_some, Option.toList_none, List.cons_append, List.nil_append, sc_i, sc_r, sc_l, sc_u, sc_s, List.length_nil, List.length_cons, Nat.reduceAdd, Nat.reduceLeDiff, Nat.zero_le, le4_0, le4_1, le4_2, le4_3, rz0, rz1, rzt, eq_self, tI_0, tI_n0, if_true, if_false, ne_eq, not_true_eq_false, not_false_eq_true, and_self, Bool.false_eq_true, x_isIn, z4, h3, z0]
      · simp only [z26_0, z26_1, z26_3, z26_5, z26_8, z26_9, z26_10, z26_12, z26_14, z26_17, z26_18, z26_19c0, z26_19c1, z26_19c2, z26_19c3, z26_19c4, z26_19d, z26_52, z26_53, z26_55, z26_58, z26_59, z26_62, z26_63, z26_66, z26_67, z26_70, z26_71, z26_72, z26_73, z26_76, z26_77, z26_78, z26_81, z26_82, z26_85, z26_86, z26_87, z26_88, z26_91, z26_92, z26_95, z26_96, z26_97, z26_98, z26_101, z26_102, z26_105, z26_106, z26_108, z26_111, z26_112, z26_115, z26_116, z26_117, z26_118, Option.bind_some, Option.toList_some, Option.toList_none, List.cons_append, List.nil_append, sc_i, sc_r, sc_l, sc_u, sc_s, List.length_nil, List.length_cons, Nat.reduceAdd, Nat.reduceLeDiff, Nat.zero_le, le4_0, le4_1, le4_2, le4_3, rz0, rz1, rzt, eq_self, tI_0, tI_n0, if_true, if_false, ne_eq, not_true_eq_false, not_false_eq_true, and_self, Bool.false_eq_true, x_isIn, z4, h2, h1, z5]
  | d + 5, h => omega
def fpN (g : Nat → Int32) (c : Nat) : Nat → Nat → Nat → Int32
  | 0, _, d => if d = 0 then -6 else nI c
  | n + 1, i, d => if dueN d (g i) = 5 then nI i else fpN g c n (i + 1) (dueN d (g i))
theorem x_fpL {X : Scr} {w : AW} {c : Nat} (h0 : OK w) (hc : c ≤ 60) (h1 : fI w 11 1 = nI c) : ∀ (n i : Nat), i + n = c → ∀ d : Nat, d ≤ 4 → Z X 24 4 [.ref 11, .int (nI d), .int (nI i)] [] w = some (some (.int (fpN (aget w 12) c n i d)), w) := by
  intro n
  induction n with
  | zero =>
    intro i hi d hd
    have hi : i = c := hi
    subst hi
    have ed : (nI d = 0) = (d = 0) := eqN (b := 0) (by omega) (by decide)
    rw [z24_4, fpN]
    have z0 : nI 0 = 0 := rfl
    by_cases e : d = 0
    · simp only [z24_0, z24_1, z24_2, z24_3, z24_5, z24_6, z24_9, z24_12, z24_13, z24_14, z24_15, z24_18, z24_21, z24_22, z24_23, z24_24, z24_27, z24_28, z24_29, z24_32, z24_35, z24_36, z24_39, z24_41, z24_44, z24_45, z24_48, Option.bind_some, Option.toList_some, Option.toList_none, List.cons_append, List.nil_append, sc_i, sc_r, sc_l, sc_u, sc_s, List.length_nil, List.length_cons, Nat.reduceAdd, Nat.reduceLeDiff, Nat.zero_le, le4_0, le4_1, le4_2, le4_3, rz0, rz1, rzt, eq_self, fo_f, fo_a, fo_j, co_f, co_a, co_j, ao_f, ao_a, ao_j, zo_f, zo_a, zo_j, jo_f, jo_a, jo_j, al_f, al_a, al_j, fg_a, fg_j, ag_f, ag_j, jg_f, jg_a, fk_f, fk_a, fk_j, fi_a, fi_j, tI_0, tI_n0, if_true, if_false, ne_eq, not_true_eq_false, not_false_eq_true, and_self, Bool.false_eq_true, oc11 h0, of11_0 h0, og11_0 h0, of11_1 h0, og11_1 h0, ok11_1 h0, h1, geN (show i < 1000 by omega) (show i < 1000 by omega), Nat.le_refl, z0, e]
    · simp only [z24_0, z24_1, z24_2, z24_3, z24_5, z24_6, z24_9, z24_12, z24_13, z24_14, z24_15, z24_18, z24_21, z24_22, z24_23, z24_24, z24_27, z24_28, z24_29, z24_32, z24_35, z24_36, z24_39, z24_41, z24_44, z24_45, z24_48, Option.bind_some, Option.toList_some, Option.toList_none, List.cons_append, List.nil_append, sc_i, sc_r, sc_l, sc_u, sc_s, List.length_nil, List.length_cons, Nat.reduceAdd, Nat.reduceLeDiff, Nat.zero_le, le4_0, le4_1, le4_2, le4_3, rz0, rz1, rzt, eq_self, fo_f, fo_a, fo_j, co_f, co_a, co_j, ao_f, ao_a, ao_j, zo_f, zo_a, zo_j, jo_f, jo_a, jo_j, al_f, al_a, al_j, fg_a, fg_j, ag_f, ag_j, jg_f, jg_a, fk_f, fk_a, fk_j, fi_a, fi_j, tI_0, tI_n0, if_true, if_false, ne_eq, not_true_eq_false, not_false_eq_true, and_self, Bool.false_eq_true, oc11 h0, of11_0 h0, og11_0 h0, of11_1 h0, og11_1 h0, ok11_1 h0, h1, geN (show i < 1000 by omega) (show i < 1000 by omega), Nat.le_refl, ed, e]
  | succ n ih =>
    intro i hi d hd
    have e : ¬ c ≤ i := by omega
    have hs := x_sign (X := X) (p := i) h0 hc (by omega) h1
    rw [sg_in (by omega)] at hs
    have hl := due_le d (aget w 12 i)
    have e5 : (nI (dueN d (aget w 12 i)) = 5) = (dueN d (aget w 12 i) = 5) := eqN (b := 5) (by omega) (by decide)
    rw [z24_4, fpN]
    have z5 : nI 5 = 5 := rfl
    by_cases q : dueN d (aget w 12 i) = 5
    · simp only [z24_0, z24_1, z24_2, z24_3, z24_5, z24_6, z24_9, z24_12, z24_13, z24_14, z24_15, z24_18, z24_21, z24_22, z24_23, z24_24, z24_27, z24_28, z24_29, z24_32, z24_35, z24_36, z24_39, z24_41, z24_44, z24_45, z24_48, Option.bind_some, Option.toList_some, Option.toList_none, List.cons_append, List.nil_append, sc_i, sc_r, sc_l, sc_u, sc_s, List.length_nil, List.length_cons, Nat.reduceAdd, Nat.reduceLeDiff, Nat.zero_le, le4_0, le4_1, le4_2, le4_3, rz0, rz1, rzt, eq_self, fo_f, fo_a, fo_j, co_f, co_a, co_j, ao_f, ao_a, ao_j, zo_f, zo_a, zo_j, jo_f, jo_a, jo_j, al_f, al_a, al_j, fg_a, fg_j, ag_f, ag_j, jg_f, jg_a, fk_f, fk_a, fk_j, fi_a, fi_j, tI_0, tI_n0, if_true, if_false, ne_eq, not_true_eq_false, not_false_eq_true, and_self, Bool.false_eq_true, oc11 h0, of11_0 h0, og11_0 h0, of11_1 h0, og11_1 h0, ok11_1 h0, h1, geN (show i < 1000 by omega) (show c < 1000 by omega), e, hs, x_due hd, z5, q]
    · simp only [z24_0, z24_1, z24_2, z24_3, z24_5, z24_6, z24_9, z24_12, z24_13, z24_14, z24_15, z24_18, z24_21, z24_22, z24_23, z24_24, z24_27, z24_28, z24_29, z24_32, z24_35, z24_36, z24_39, z24_41, z24_44, z24_45, z24_48, Option.bind_some, Option.toList_some, Option.toList_none, List.cons_append, List.nil_append, sc_i, sc_r, sc_l, sc_u, sc_s, List.length_nil, List.length_cons, Nat.reduceAdd, Nat.reduceLeDiff, Nat.zero_le, le4_0, le4_1, le4_2, le4_3, rz0, rz1, rzt, eq_self, fo_f, fo_a, fo_j, co_f, co_a, co_j, ao_f, ao_a, ao_j, zo_f, zo_a, zo_j, jo_f, jo_a, jo_j, al_f, al_a, al_j, fg_a, fg_j, ag_f, ag_j, jg_f, jg_a, fk_f, fk_a, fk_j, fi_a, fi_j, tI_0, tI_n0, if_true, if_false, ne_eq, not_true_eq_false, not_false_eq_true, and_self, Bool.false_eq_true, oc11 h0, of11_0 h0, og11_0 h0, of11_1 h0, og11_1 h0, ok11_1 h0, h1, geN (show i < 1000 by omega) (show c < 1000 by omega), e, hs, x_due hd, e5, q, nI_1, ih (i + 1) (by omega) _ (show dueN d (aget w 12 i) ≤ 4 by omega)]
theorem x_fp {X : Scr} {w : AW} {c : Nat} (h0 : OK w) (hc : c ≤ 60) (h1 : fI w 11 1 = nI c) : Z X 24 0 [.ref 11, uns, uns] [] w = some (some (.int (fpN (aget w 12) c c 0 0)), w) := by
  have q := x_fpL (X := X) h0 hc h1 c 0 (by omega) 0 (by decide)
  have z0 : nI 0 = 0 := rfl
  rw [z0] at q
  simp only [z24_0, z24_1, z24_2, z24_3, z24_5, z24_6, z24_9, z24_12, z24_13, z24_14, z24_15, z24_18, z24_21, z24_22, z24_23, z24_24, z24_27, z24_28, z24_29, z24_32, z24_35, z24_36, z24_39, z24_41, z24_44, z24_45, z24_48, Option.bind_some, Option.toList_some, Option.toList_none, List.cons_append, List.nil_append, sc_i, sc_r, sc_l, sc_u, sc_s, List.length_nil, List.length_cons, Nat.reduceAdd, Nat.reduceLeDiff, Nat.zero_le, le4_0, le4_1, le4_2, le4_3, rz0, rz1, rzt, eq_self, q]
def lcN (g : Nat → Int32) (c : Nat) : Nat → Nat → Nat
  | 0, _ => 0
  | n + 1, p => if 97 ≤ sg g c p ∧ sg g c p ≤ 106 then lcN g c n (p + 1) + 1 else 0
theorem lc_b {g : Nat → Int32} {c : Nat} : ∀ n p, lcN g c n p ≤ n := by
  intro n
  induction n with
  | zero => intro p; exact Nat.le_refl 0
  | succ n ih =>
    intro p
    rw [lcN]
    have := ih (p + 1)
    split <;> omega
theorem x_letL {X : Scr} {w : AW} {c p : Nat} (h0 : OK w) (hc : c ≤ 60) (hp : p < 100) (h1 : fI w 11 1 = nI c) : ∀ (n l : Nat), l + n = 60 → Z X 41 2 [.ref 11, .int (nI p), .int (nI l)] [] w = some (some (.int (nI (l + lcN (aget w 12) c n (p + l)))), w) := by
  intro n
  induction n with
  | zero =>
    intro l hl
    have hl : l = 60 := hl
    subst hl
    have e : nI 60 ≥ 60 := by decide
    rw [z41_2]
    simp only [z41_0, z41_1, z41_3, z41_5, z41_8, z41_9, z41_10, z41_11, z41_12, z41_15, z41_17, z41_19, z41_22, z41_25, z41_28, z41_31, z41_32, Option.bind_some, Option.toList_some, Option.toList_none, List.cons_append, List.nil_append, sc_i, sc_r, sc_l, sc_u, sc_s, List.length_nil, List.length_cons, Nat.reduceAdd, Nat.reduceLeDiff, Nat.zero_le, le4_0, le4_1, le4_2, le4_3, rz0, rz1, rzt, eq_self, tI_0, tI_n0, if_true, if_false, ne_eq, not_true_eq_false, not_false_eq_true, and_self, Bool.false_eq_true, e, lcN, Nat.add_zero]
  | succ n ih =>
    intro l hl
    have e : ¬ nI l ≥ 60 := i32_nle.mpr (by rw [show (60 : Int32) = nI 60 from rfl]; exact nI_lt (by omega) (by decide))
    have hs := x_sign (X := X) (p := p + l) h0 hc (by omega) h1
    rw [z41_2, lcN]
    by_cases q : 97 ≤ sg (aget w 12) c (p + l) ∧ sg (aget w 12) c (p + l) ≤ 106
    · have i1 := ih (l + 1) (by omega)
      rw [show l + 1 + lcN (aget w 12) c n (p + (l + 1)) = l + (lcN (aget w 12) c n (p + l + 1) + 1) by rw [show p + (l + 1) = p + l + 1 by omega]; omega] at i1
      simp only [z41_0, z41_1, z41_3, z41_5, z41_8, z41_9, z41_10, z41_11, z41_12, z41_15, z41_17, z41_19, z41_22, z41_25, z41_28, z41_31, z41_32, Option.bind_some, Option.toList_some, Option.toList_none, List.cons_append, List.nil_append, sc_i, sc_r, sc_l, sc_u, sc_s, List.length_nil, List.length_cons, Nat.reduceAdd, Nat.reduceLeDiff, Nat.zero_le, le4_0, le4_1, le4_2, le4_3, rz0, rz1, rzt, eq_self, fo_f, fo_a, fo_j, co_f, co_a, co_j, ao_f, ao_a, ao_j, zo_f, zo_a, zo_j, jo_f, jo_a, jo_j, al_f, al_a, al_j, fg_a, fg_j, ag_f, ag_j, jg_f, jg_a, fk_f, fk_a, fk_j, fi_a, fi_j, tI_0, tI_n0, if_true, if_false, ne_eq, not_true_eq_false, not_false_eq_true, and_self, Bool.false_eq_true, oc11 h0, of11_0 h0, og11_0 h0, of11_1 h0, og11_1 h0, ok11_1 h0, e, nI_add, hs, x_isIn, q, nI_1, i1]
    · simp only [z41_0, z41_1, z41_3, z41_5, z41_8, z41_9, z41_10, z41_11, z41_12, z41_15, z41_17, z41_19, z41_22, z41_25, z41_28, z41_31, z41_32, Option.bind_some, Option.toList_some, Option.toList_none, List.cons_append, List.nil_append, sc_i, sc_r, sc_l, sc_u, sc_s, List.length_nil, List.length_cons, Nat.reduceAdd, Nat.reduceLeDiff, Nat.zero_le, le4_0, le4_1, le4_2, le4_3, rz0, rz1, rzt, eq_self, fo_f, fo_a, fo_j, co_f, co_a, co_j, ao_f, ao_a, ao_j, zo_f, zo_a, zo_j, jo_f, jo_a, jo_j, al_f, al_a, al_j, fg_a, fg_j, ag_f, ag_j, jg_f, jg_a, fk_f, fk_a, fk_j, fi_a, fi_j, tI_0, tI_n0, if_true, if_false, ne_eq, not_true_eq_false, not_false_eq_true, and_self, Bool.false_eq_true, oc11 h0, of11_0 h0, og11_0 h0, of11_1 h0, og11_1 h0, ok11_1 h0, e, nI_add, hs, x_isIn, q, Nat.add_zero]
theorem x_let {X : Scr} {w : AW} {c p : Nat} (h0 : OK w) (hc : c ≤ 60) (hp : p < 100) (h1 : fI w 11 1 = nI c) : Z X 41 0 [.ref 11, .int (nI p), uns] [] w = some (some (.int (nI (lcN (aget w 12) c 60 p))), w) := by
  have q := x_letL (X := X) h0 hc hp h1 60 0 rfl
  have z0 : nI 0 = 0 := rfl
  rw [z0, Nat.zero_add, Nat.add_zero] at q
  simp only [z41_0, z41_1, z41_3, z41_5, z41_8, z41_9, z41_10, z41_11, z41_12, z41_15, z41_17, z41_19, z41_22, z41_25, z41_28, z41_31, z41_32, Option.bind_some, Option.toList_some, Option.toList_none, List.cons_append, List.nil_append, sc_i, sc_r, sc_l, sc_u, sc_s, List.length_nil, List.length_cons, Nat.reduceAdd, Nat.reduceLeDiff, Nat.zero_le, le4_0, le4_1, le4_2, le4_3, rz0, rz1, rzt, eq_self, q]
def lenN (g : Nat → Int32) (c p : Nat) : Nat := if sg g c p = 33 then 1 else if sg g c (p + 1) = 34 then 3 + lcN g c 60 (p + 2) else if sg g c (p + 1) = 62 then 3 else 2
theorem x_len {X : Scr} {w : AW} {c p : Nat} (h0 : OK w) (hc : c ≤ 60) (hp : p < 90) (h1 : fI w 11 1 = nI c) : Z X 44 0 [.ref 11, .int (nI p)] [] w = some (some (.int (nI (lenN (aget w 12) c p))), w) := by
  have s0 := x_sign (X := X) (p := p) h0 hc (by omega) h1
  have s1 := x_sign (X := X) (p := p + 1) h0 hc (by omega) h1
  have s2 := x_let (X := X) (p := p + 2) h0 hc (by omega) h1
  have z1 : nI 1 = 1 := rfl
  have z2 : nI 2 = 2 := rfl
  have z3 : nI 3 = 3 := rfl
  have p1 : nI p + 1 = nI (p + 1) := nI_1 p
  have p2 : nI p + 2 = nI (p + 2) := by rw [show (2 : Int32) = nI 2 from rfl, nI_add]
  have p3 : ∀ t, (3 : Int32) + nI t = nI (3 + t) := fun t => by rw [show (3 : Int32) = nI 3 from rfl, nI_add]
  unfold lenN
  by_cases e1 : sg (aget w 12) c p = 33
  · rw [e1] at s0
    simp only [z44_0, z44_1, z44_2, z44_5, z44_7, z44_10, z44_11, z44_12, z44_13, z44_14, z44_15, z44_16, z44_19c0, z44_19c1, z44_19d, z44_44, z44_45, z44_46, z44_47, z44_48, z44_49, z44_50, z44_51, z44_54, z44_55, z44_56, z44_57, Option.bind_some, Option.toList_some, Option.toList_none, List.cons_append, List.nil_append, sc_i, sc_r, sc_l, sc_u, sc_s, List.length_nil, List.length_cons, Nat.reduceAdd, Nat.reduceLeDiff, Nat.zero_le, le4_0, le4_1, le4_2, le4_3, rz0, rz1, rzt, eq_self, fo_f, fo_a, fo_j, co_f, co_a, co_j, ao_f, ao_a, ao_j, zo_f, zo_a, zo_j, jo_f, jo_a, jo_j, al_f, al_a, al_j, fg_a, fg_j, ag_f, ag_j, jg_f, jg_a, fk_f, fk_a, fk_j, fi_a, fi_j, tI_0, tI_n0, if_true, if_false, ne_eq, not_true_eq_false, not_false_eq_true, and_self, Bool.false_eq_true, oc11 h0, of11_0 h0, og11_0 h0, of11_1 h0, og11_1 h0, ok11_1 h0, s0, e1, z1]
  · by_cases e2 : sg (aget w 12) c (p + 1) = 34
    · rw [e2] at s1
      simp only [z44_0, z44_1, z44_2, z44_5, z44_7, z44_10, z44_11, z44_12, z44_13, z44_14, z44_15, z44_16, z44_19c0, z44_19c1, z44_19d, z44_44, z44_45, z44_46, z44_47, z44_48, z44_49, z44_50, z44_51, z44_54, z44_55, z44_56, z44_57, Option.bind_some, Option.toList_some, Option.toList_none, List.cons_append, List.nil_append, sc_i, sc_r, sc_l, sc_u, sc_s, List.length_nil, List.length_cons, Nat.reduceAdd, Nat.reduceLeDiff, Nat.zero_le, le4_0, le4_1, le4_2, le4_3, rz0, rz1, rzt, eq_self, fo_f, fo_a, fo_j, co_f, co_a, co_j, ao_f, ao_a, ao_j, zo_f, zo_a, zo_j, jo_f, jo_a, jo_j, al_f, al_a, al_j, fg_a, fg_j, ag_f, ag_j, jg_f, jg_a, fk_f, fk_a, fk_j, fi_a, fi_j, tI_0, tI_n0, if_true, if_false, ne_eq, not_true_eq_false, not_false_eq_true, and_self, Bool.false_eq_true, oc11 h0, of11_0 h0, og11_0 h0, of11_1 h0, og11_1 h0, ok11_1 h0, s0, e1, p1, s1, e2, p2, s2, p3]
    · by_cases e3 : sg (aget w 12) c (p + 1) = 62
      · rw [e3] at s1
        have n62 : ¬ (62 : Int32) = 34 := by decide
        simp only [n62, z44_0, z44_1, z44_2, z44_5, z44_7, z44_10, z44_11, z44_12, z44_13, z44_14, z44_15, z44_16, z44_19c0, z44_19c1, z44_19d, z44_44, z44_45, z44_46, z44_47, z44_48, z44_49, z44_50, z44_51, z44_54, z44_55, z44_56, z44_57, Option.bind_some, Option.toList_some, Option.toList_none, List.cons_append, List.nil_append, sc_i, sc_r, sc_l, sc_u, sc_s, List.length_nil, List.length_cons, Nat.reduceAdd, Nat.reduceLeDiff, Nat.zero_le, le4_0, le4_1, le4_2, le4_3, rz0, rz1, rzt, eq_self, fo_f, fo_a, fo_j, co_f, co_a, co_j, ao_f, ao_a, ao_j, zo_f, zo_a, zo_j, jo_f, jo_a, jo_j, al_f, al_a, al_j, fg_a, fg_j, ag_f, ag_j, jg_f, jg_a, fk_f, fk_a, fk_j, fi_a, fi_j, tI_0, tI_n0, if_true, if_false, ne_eq, not_true_eq_false, not_false_eq_true, and_self, Bool.false_eq_true, oc11 h0, of11_0 h0, og11_0 h0, of11_1 h0, og11_1 h0, ok11_1 h0, s0, e1, p1, s1, e2, e3, z3]
      · simp only [z44_0, z44_1, z44_2, z44_5, z44_7, z44_10, z44_11, z44_12, z44_13, z44_14, z44_15, z44_16, z44_19c0, z44_19c1, z44_19d, z44_44, z44_45, z44_46, z44_47, z44_48, z44_49, z44_50, z44_51, z44_54, z44_55, z44_56, z44_57, Option.bind_some, Option.toList_some, Option.toList_none, List.cons_append, List.nil_append, sc_i, sc_r, sc_l, sc_u, sc_s, List.length_nil, List.length_cons, Nat.reduceAdd, Nat.reduceLeDiff, Nat.zero_le, le4_0, le4_1, le4_2, le4_3, rz0, rz1, rzt, eq_self, fo_f, fo_a, fo_j, co_f, co_a, co_j, ao_f, ao_a, ao_j, zo_f, zo_a, zo_j, jo_f, jo_a, jo_j, al_f, al_a, al_j, fg_a, fg_j, ag_f, ag_j, jg_f, jg_a, fk_f, fk_a, fk_j, fi_a, fi_j, tI_0, tI_n0, if_true, if_false, ne_eq, not_true_eq_false, not_false_eq_true, and_self, Bool.false_eq_true, oc11 h0, of11_0 h0, og11_0 h0, of11_1 h0, og11_1 h0, ok11_1 h0, s0, e1, p1, s1, e2, e3, z2]
