/-! fits: the model, and both -/
def bN (b : Bool) : Int32 := if b = true then 1 else 0
theorem bN_t : bN true = 1 := rfl
theorem bN_f : bN false = 0 := rfl
def SM (w : AW) (A B C : Nat → Int32) (c : Nat) : Prop := OK w ∧ fI w 64 13 = nI c ∧ ∀ i, i < 8 → aget w 72 i = A i ∧ aget w 73 i = B i ∧ aget w 74 i = C i
theorem x_isFitL {X : Scr} {w : AW} {A B C : Nat → Int32} {c x : Nat} (sv : SV A B C c) (sm : SM w A B C c) (hx : x < 800) : ∀ (n i : Nat), i + n = c → ∀ b : Bool, (b = true → 1 ≤ x % 10) → Z X 150 41 [.ref 64, .int (nI x), .int (bN b), .int (nI i)] [] w = some (some (.int (bN (b && okL A B C x n i))), w) := by
  obtain ⟨h0, k1, k2⟩ := sm
  obtain ⟨hc, hs⟩ := sv
  intro n
  induction n with
  | zero =>
    intro i hi b hb
    have hi : i = c := hi
    subst hi
    rw [z150_41]
    cases b <;> simp only [z150_0, z150_1, z150_3, z150_4, z150_6, z150_7, z150_8, z150_9, z150_12, z150_15, z150_18, z150_19, z150_21, z150_22, z150_23, z150_24, z150_27, z150_30, z150_33, z150_34, z150_37, z150_38, z150_39, z150_40, z150_42, z150_43, z150_46, z150_49, z150_50, z150_53, z150_54, z150_55, z150_58, z150_59, z150_60, z150_63, z150_64, z150_67, z150_68, z150_69, z150_72, z150_73, z150_76, z150_77, z150_78, z150_81, z150_82, z150_83, z150_84, z150_87, z150_88, z150_91, z150_92, z150_95, z150_96, z150_99, z150_100, z150_101, z150_104, z150_107, z150_108, Option.bind_some, Option.toList_some, Option.toList_none, List.cons_append, List.nil_append, sc_i, sc_r, sc_l, sc_u, sc_s, List.length_nil, List.length_cons, Nat.reduceAdd, Nat.reduceLeDiff, Nat.zero_le, le4_0, le4_1, le4_2, le4_3, rz0, rz1, rzt, eq_self, fo_f, fo_a, fo_j, co_f, co_a, co_j, ao_f, ao_a, ao_j, zo_f, zo_a, zo_j, jo_f, jo_a, jo_j, al_f, al_a, al_j, fg_a, fg_j, ag_f, ag_j, jg_f, jg_a, fk_f, fk_a, fk_j, fi_a, fi_j, tI_0, tI_n0, if_true, if_false, ne_eq, not_true_eq_false, not_false_eq_true, and_self, Bool.false_eq_true, oc64 h0, of64_0 h0, og64_0 h0, ok64_0 h0, of64_1 h0, og64_1 h0, of64_2 h0, og64_2 h0, of64_3 h0, og64_3 h0, of64_4 h0, og64_4 h0, of64_5 h0, og64_5 h0, ok64_5 h0, of64_6 h0, og64_6 h0, ok64_6 h0, of64_7 h0, og64_7 h0, of64_8 h0, og64_8 h0, of64_9 h0, og64_9 h0, of64_10 h0, og64_10 h0, of64_11 h0, og64_11 h0, of64_12 h0, og64_12 h0, of64_13 h0, og64_13 h0, ok64_13 h0, of64_14 h0, og64_14 h0, of64_15 h0, og64_15 h0, ok64_15 h0, of64_16 h0, og64_16 h0, of64_17 h0, og64_17 h0, of64_18 h0, og64_18 h0, of64_19 h0, og64_19 h0, of64_20 h0, og64_20 h0, of64_21 h0, og64_21 h0, ok64_21 h0, of64_22 h0, og64_22 h0, of64_23 h0, og64_23 h0, ok64_23 h0, of64_24 h0, og64_24 h0, ok64_24 h0, of64_25 h0, og64_25 h0, ok64_25 h0, of64_26 h0, og64_26 h0, ok64_26 h0, of64_27 h0, og64_27 h0, ok64_27 h0, of64_28 h0, og64_28 h0, of64_29 h0, og64_29 h0, of64_30 h0, og64_30 h0, of64_31 h0, og64_31 h0, of64_32 h0, og64_32 h0, of64_33 h0, og64_33 h0, of64_34 h0, og64_34 h0, of64_35 h0, og64_35 h0, ok64_35 h0, of64_36 h0, og64_36 h0, ok64_36 h0, k1, geN (show i < 1000 by omega) (show i < 1000 by omega), Nat.le_refl, okL, Bool.and_true, bN_t, bN_f]
  | succ n ih =>
    intro i hi b hb
    have hi8 : i < 8 := by omega
    have e1 : ¬ c ≤ i := by omega
    cases b with
    | false =>
      rw [z150_41]
      simp only [z150_0, z150_1, z150_3, z150_4, z150_6, z150_7, z150_8, z150_9, z150_12, z150_15, z150_18, z150_19, z150_21, z150_22, z150_23, z150_24, z150_27, z150_30, z150_33, z150_34, z150_37, z150_38, z150_39, z150_40, z150_42, z150_43, z150_46, z150_49, z150_50, z150_53, z150_54, z150_55, z150_58, z150_59, z150_60, z150_63, z150_64, z150_67, z150_68, z150_69, z150_72, z150_73, z150_76, z150_77, z150_78, z150_81, z150_82, z150_83, z150_84, z150_87, z150_88, z150_91, z150_92, z150_95, z150_96, z150_99, z150_100, z150_101, z150_104, z150_107, z150_108, Option.bind_some, Option.toList_some, Option.toList_none, List.cons_append, List.nil_append, sc_i, sc_r, sc_l, sc_u, sc_s, List.length_nil, List.length_cons, Nat.reduceAdd, Nat.reduceLeDiff, Nat.zero_le, le4_0, le4_1, le4_2, le4_3, rz0, rz1, rzt, eq_self, fo_f, fo_a, fo_j, co_f, co_a, co_j, ao_f, ao_a, ao_j, zo_f, zo_a, zo_j, jo_f, jo_a, jo_j, al_f, al_a, al_j, fg_a, fg_j, ag_f, ag_j, jg_f, jg_a, fk_f, fk_a, fk_j, fi_a, fi_j, tI_0, tI_n0, if_true, if_false, ne_eq, not_true_eq_false, not_false_eq_true, and_self, Bool.false_eq_true, oc64 h0, of64_0 h0, og64_0 h0, ok64_0 h0, of64_1 h0, og64_1 h0, of64_2 h0, og64_2 h0, of64_3 h0, og64_3 h0, of64_4 h0, og64_4 h0, of64_5 h0, og64_5 h0, ok64_5 h0, of64_6 h0, og64_6 h0, ok64_6 h0, of64_7 h0, og64_7 h0, of64_8 h0, og64_8 h0, of64_9 h0, og64_9 h0, of64_10 h0, og64_10 h0, of64_11 h0, og64_11 h0, of64_12 h0, og64_12 h0, of64_13 h0, og64_13 h0, ok64_13 h0, of64_14 h0, og64_14 h0, of64_15 h0, og64_15 h0, ok64_15 h0, of64_16 h0, og64_16 h0, of64_17 h0, og64_17 h0, of64_18 h0, og64_18 h0, of64_19 h0, og64_19 h0, of64_20 h0, og64_20 h0, of64_21 h0, og64_21 h0, ok64_21 h0, of64_22 h0, og64_22 h0, of64_23 h0, og64_23 h0, ok64_23 h0, of64_24 h0, og64_24 h0, ok64_24 h0, of64_25 h0, og64_25 h0, ok64_25 h0, of64_26 h0, og64_26 h0, ok64_26 h0, of64_27 h0, og64_27 h0, ok64_27 h0, of64_28 h0, og64_28 h0, of64_29 h0, og64_29 h0, of64_30 h0, og64_30 h0, of64_31 h0, og64_31 h0, of64_32 h0, og64_32 h0, of64_33 h0, og64_33 h0, of64_34 h0, og64_34 h0, of64_35 h0, og64_35 h0, ok64_35 h0, of64_36 h0, og64_36 h0, ok64_36 h0, k1, geN (show i < 1000 by omega) (show c < 1000 by omega), e1, bN_f, Bool.false_and]
    | true =>
      have hd := hb rfl
      obtain ⟨⟨m, hm, hA⟩, hC⟩ := hs i hi8
      obtain ⟨j1, j2, j3⟩ := k2 i hi8
      have hAm : (A i).toNatClampNeg = m := by rw [hA]; exact nI_clamp (by omega)
      have hh := x_whoM (X := X) (w := w) hx hd hm
      have hnx : nI i + 1 = nI (i + 1) := nI_1 i
      have z01 : ¬ (0 : Int32) = 1 := by decide
      have it := ih (i + 1) (by omega) true (fun _ => hd)
      have iff := ih (i + 1) (by omega) false (fun q => by cases q)
      rw [bN_t] at it
      rw [bN_f] at iff
      rw [okL, hAm, bN_t, z150_41]
      by_cases q : nI (who x m) = B i
      · rcases hC with hC | hC
        · simp only [z150_0, z150_1, z150_3, z150_4, z150_6, z150_7, z150_8, z150_9, z150_12, z150_15, z150_18, z150_19, z150_21, z150_22, z150_23, z150_24, z150_27, z150_30, z150_33, z150_34, z150_37, z150_38, z150_39, z150_40, z150_42, z150_43, z150_46, z150_49, z150_50, z150_53, z150_54, z150_55, z150_58, z150_59, z150_60, z150_63, z150_64, z150_67, z150_68, z150_69, z150_72, z150_73, z150_76, z150_77, z150_78, z150_81, z150_82, z150_83, z150_84, z150_87, z150_88, z150_91, z150_92, z150_95, z150_96, z150_99, z150_100, z150_101, z150_104, z150_107, z150_108, Option.bind_some, Option.toList_some, Option.toList_none, List.cons_append, List.nil_append, sc_i, sc_r, sc_l, sc_u, sc_s, List.length_nil, List.length_cons, Nat.reduceAdd, Nat.reduceLeDiff, Nat.zero_le, le4_0, le4_1, le4_2, le4_3, rz0, rz1, rzt, eq_self, fo_f, fo_a, fo_j, co_f, co_a, co_j, ao_f, ao_a, ao_j, zo_f, zo_a, zo_j, jo_f, jo_a, jo_j, al_f, al_a, al_j, fg_a, fg_j, ag_f, ag_j, jg_f, jg_a, fk_f, fk_a, fk_j, fi_a, fi_j, tI_0, tI_n0, if_true, if_false, ne_eq, not_true_eq_false, not_false_eq_true, and_self, Bool.false_eq_true, oc64 h0, of64_0 h0, og64_0 h0, ok64_0 h0, of64_1 h0, og64_1 h0, of64_2 h0, og64_2 h0, of64_3 h0, og64_3 h0, of64_4 h0, og64_4 h0, of64_5 h0, og64_5 h0, ok64_5 h0, of64_6 h0, og64_6 h0, ok64_6 h0, of64_7 h0, og64_7 h0, of64_8 h0, og64_8 h0, of64_9 h0, og64_9 h0, of64_10 h0, og64_10 h0, of64_11 h0, og64_11 h0, of64_12 h0, og64_12 h0, of64_13 h0, og64_13 h0, ok64_13 h0, of64_14 h0, og64_14 h0, of64_15 h0, og64_15 h0, ok64_15 h0, of64_16 h0, og64_16 h0, of64_17 h0, og64_17 h0, of64_18 h0, og64_18 h0, of64_19 h0, og64_19 h0, of64_20 h0, og64_20 h0, of64_21 h0, og64_21 h0, ok64_21 h0, of64_22 h0, og64_22 h0, of64_23 h0, og64_23 h0, ok64_23 h0, of64_24 h0, og64_24 h0, ok64_24 h0, of64_25 h0, og64_25 h0, ok64_25 h0, of64_26 h0, og64_26 h0, ok64_26 h0, of64_27 h0, og64_27 h0, ok64_27 h0, of64_28 h0, og64_28 h0, of64_29 h0, og64_29 h0, of64_30 h0, og64_30 h0, of64_31 h0, og64_31 h0, of64_32 h0, og64_32 h0, of64_33 h0, og64_33 h0, of64_34 h0, og64_34 h0, of64_35 h0, og64_35 h0, ok64_35 h0, of64_36 h0, og64_36 h0, ok64_36 h0, oa72 h0, ol72 h0, oa73 h0, ol73 h0, oa74 h0, ol74 h0, k1, geN (show i < 1000 by omega) (show c < 1000 by omega), e1, b8 hi8, c8 hi8, j1, j2, j3, hA, hh, q, hC, z10, z01, hnx, iff]
          simp
        · simp only [z150_0, z150_1, z150_3, z150_4, z150_6, z150_7, z150_8, z150_9, z150_12, z150_15, z150_18, z150_19, z150_21, z150_22, z150_23, z150_24, z150_27, z150_30, z150_33, z150_34, z150_37, z150_38, z150_39, z150_40, z150_42, z150_43, z150_46, z150_49, z150_50, z150_53, z150_54, z150_55, z150_58, z150_59, z150_60, z150_63, z150_64, z150_67, z150_68, z150_69, z150_72, z150_73, z150_76, z150_77, z150_78, z150_81, z150_82, z150_83, z150_84, z150_87, z150_88, z150_91, z150_92, z150_95, z150_96, z150_99, z150_100, z150_101, z150_104, z150_107, z150_108, Option.bind_some, Option.toList_some, Option.toList_none, List.cons_append, List.nil_append, sc_i, sc_r, sc_l, sc_u, sc_s, List.length_nil, List.length_cons, Nat.reduceAdd, Nat.reduceLeDiff, Nat.zero_le, le4_0, le4_1, le4_2, le4_3, rz0, rz1, rzt, eq_self, fo_f, fo_a, fo_j, co_f, co_a, co_j, ao_f, ao_a, ao_j, zo_f, zo_a, zo_j, jo_f, jo_a, jo_j, al_f, al_a, al_j, fg_a, fg_j, ag_f, ag_j, jg_f, jg_a, fk_f, fk_a, fk_j, fi_a, fi_j, tI_0, tI_n0, if_true, if_false, ne_eq, not_true_eq_false, not_false_eq_true, and_self, Bool.false_eq_true, oc64 h0, of64_0 h0, og64_0 h0, ok64_0 h0, of64_1 h0, og64_1 h0, of64_2 h0, og64_2 h0, of64_3 h0, og64_3 h0, of64_4 h0, og64_4 h0, of64_5 h0, og64_5 h0, ok64_5 h0, of64_6 h0, og64_6 h0, ok64_6 h0, of64_7 h0, og64_7 h0, of64_8 h0, og64_8 h0, of64_9 h0, og64_9 h0, of64_10 h0, og64_10 h0, of64_11 h0, og64_11 h0, of64_12 h0, og64_12 h0, of64_13 h0, og64_13 h0, ok64_13 h0, of64_14 h0, og64_14 h0, of64_15 h0, og64_15 h0, ok64_15 h0, of64_16 h0, og64_16 h0, of64_17 h0, og64_17 h0, of64_18 h0, og64_18 h0, of64_19 h0, og64_19 h0, of64_20 h0, og64_20 h0, of64_21 h0, og64_21 h0, ok64_21 h0, of64_22 h0, og64_22 h0, of64_23 h0, og64_23 h0, ok64_23 h0, of64_24 h0, og64_24 h0, ok64_24 h0, of64_25 h0, og64_25 h0, ok64_25 h0, of64_26 h0, og64_26 h0, ok64_26 h0, of64_27 h0, og64_27 h0, ok64_27 h0, of64_28 h0, og64_28 h0, of64_29 h0, og64_29 h0, of64_30 h0, og64_30 h0, of64_31 h0, og64_31 h0, of64_32 h0, og64_32 h0, of64_33 h0, og64_33 h0, of64_34 h0, og64_34 h0, of64_35 h0, og64_35 h0, ok64_35 h0, of64_36 h0, og64_36 h0, ok64_36 h0, oa72 h0, ol72 h0, oa73 h0, ol73 h0, oa74 h0, ol74 h0, k1, geN (show i < 1000 by omega) (show c < 1000 by omega), e1, b8 hi8, c8 hi8, j1, j2, j3, hA, hh, q, hC, z10, z01, hnx, it]
          simp
      · rcases hC with hC | hC
        · simp only [z150_0, z150_1, z150_3, z150_4, z150_6, z150_7, z150_8, z150_9, z150_12, z150_15, z150_18, z150_19, z150_21, z150_22, z150_23, z150_24, z150_27, z150_30, z150_33, z150_34, z150_37, z150_38, z150_39, z150_40, z150_42, z150_43, z150_46, z150_49, z150_50, z150_53, z150_54, z150_55, z150_58, z150_59, z150_60, z150_63, z150_64, z150_67, z150_68, z150_69, z150_72, z150_73, z150_76, z150_77, z150_78, z150_81, z150_82, z150_83, z150_84, z150_87, z150_88, z150_91, z150_92, z150_95, z150_96, z150_99, z150_100, z150_101, z150_104, z150_107, z150_108, Option.bind_some, Option.toList_some, Option.toList_none, List.cons_append, List.nil_append, sc_i, sc_r, sc_l, sc_u, sc_s, List.length_nil, List.length_cons, Nat.reduceAdd, Nat.reduceLeDiff, Nat.zero_le, le4_0, le4_1, le4_2, le4_3, rz0, rz1, rzt, eq_self, fo_f, fo_a, fo_j, co_f, co_a, co_j, ao_f, ao_a, ao_j, zo_f, zo_a, zo_j, jo_f, jo_a, jo_j, al_f, al_a, al_j, fg_a, fg_j, ag_f, ag_j, jg_f, jg_a, fk_f, fk_a, fk_j, fi_a, fi_j, tI_0, tI_n0, if_true, if_false, ne_eq, not_true_eq_false, not_false_eq_true, and_self, Bool.false_eq_true, oc64 h0, of64_0 h0, og64_0 h0, ok64_0 h0, of64_1 h0, og64_1 h0, of64_2 h0, og64_2 h0, of64_3 h0, og64_3 h0, of64_4 h0, og64_4 h0, of64_5 h0, og64_5 h0, ok64_5 h0, of64_6 h0, og64_6 h0, ok64_6 h0, of64_7 h0, og64_7 h0, of64_8 h0, og64_8 h0, of64_9 h0, og64_9 h0, of64_10 h0, og64_10 h0, of64_11 h0, og64_11 h0, of64_12 h0, og64_12 h0, of64_13 h0, og64_13 h0, ok64_13 h0, of64_14 h0, og64_14 h0, of64_15 h0, og64_15 h0, ok64_15 h0, of64_16 h0, og64_16 h0, of64_17 h0, og64_17 h0, of64_18 h0, og64_18 h0, of64_19 h0, og64_19 h0, of64_20 h0, og64_20 h0, of64_21 h0, og64_21 h0, ok64_21 h0, of64_22 h0, og64_22 h0, of64_23 h0, og64_23 h0, ok64_23 h0, of64_24 h0, og64_24 h0, ok64_24 h0, of64_25 h0, og64_25 h0, ok64_25 h0, of64_26 h0, og64_26 h0, ok64_26 h0, of64_27 h0, og64_27 h0, ok64_27 h0, of64_28 h0, og64_28 h0, of64_29 h0, og64_29 h0, of64_30 h0, og64_30 h0, of64_31 h0, og64_31 h0, of64_32 h0, og64_32 h0, of64_33 h0, og64_33 h0, of64_34 h0, og64_34 h0, of64_35 h0, og64_35 h0, ok64_35 h0, of64_36 h0, og64_36 h0, ok64_36 h0, oa72 h0, ol72 h0, oa73 h0, ol73 h0, oa74 h0, ol74 h0, k1, geN (show i < 1000 by omega) (show c < 1000 by omega), e1, b8 hi8, c8 hi8, j1, j2, j3, hA, hh, q, hC, z10, z01, hnx, it]
          simp
        · simp only [z150_0, z150_1, z150_3, z150_4, z150_6, z150_7, z150_8, z150_9, z150_12, z150_15, z150_18, z150_19, z150_21, z150_22, z150_23, z150_24, z150_27, z150_30, z150_33, z150_34, z150_37, z150_38, z150_39, z150_40, z150_42, z150_43, z150_46, z150_49, z150_50, z150_53, z150_54, z150_55, z150_58, z150_59, z150_60, z150_63, z150_64, z150_67, z150_68, z150_69, z150_72, z150_73, z150_76, z150_77, z150_78, z150_81, z150_82, z150_83, z150_84, z150_87, z150_88, z150_91, z150_92, z150_95, z150_96, z150_99, z150_100, z150_101, z150_104, z150_107, z150_108, Option.bind_some, Option.toList_some, Option.toList_none, List.cons_append, List.nil_append, sc_i, sc_r, sc_l, sc_u, sc_s, List.length_nil, List.length_cons, Nat.reduceAdd, Nat.reduceLeDiff, Nat.zero_le, le4_0, le4_1, le4_2, le4_3, rz0, rz1, rzt, eq_self, fo_f, fo_a, fo_j, co_f, co_a, co_j, ao_f, ao_a, ao_j, zo_f, zo_a, zo_j, jo_f, jo_a, jo_j, al_f, al_a, al_j, fg_a, fg_j, ag_f, ag_j, jg_f, jg_a, fk_f, fk_a, fk_j, fi_a, fi_j, tI_0, tI_n0, if_true, if_false, ne_eq, not_true_eq_false, not_false_eq_true, and_self, Bool.false_eq_true, oc64 h0, of64_0 h0, og64_0 h0, ok64_0 h0, of64_1 h0, og64_1 h0, of64_2 h0, og64_2 h0, of64_3 h0, og64_3 h0, of64_4 h0, og64_4 h0, of64_5 h0, og64_5 h0, ok64_5 h0, of64_6 h0, og64_6 h0, ok64_6 h0, of64_7 h0, og64_7 h0, of64_8 h0, og64_8 h0, of64_9 h0, og64_9 h0, of64_10 h0, og64_10 h0, of64_11 h0, og64_11 h0, of64_12 h0, og64_12 h0, of64_13 h0, og64_13 h0, ok64_13 h0, of64_14 h0, og64_14 h0, of64_15 h0, og64_15 h0, ok64_15 h0, of64_16 h0, og64_16 h0, of64_17 h0, og64_17 h0, of64_18 h0, og64_18 h0, of64_19 h0, og64_19 h0, of64_20 h0, og64_20 h0, of64_21 h0, og64_21 h0, ok64_21 h0, of64_22 h0, og64_22 h0, of64_23 h0, og64_23 h0, ok64_23 h0, of64_24 h0, og64_24 h0, ok64_24 h0, of64_25 h0, og64_25 h0, ok64_25 h0, of64_26 h0, og64_26 h0, ok64_26 h0, of64_27 h0, og64_27 h0, ok64_27 h0, of64_28 h0, og64_28 h0, of64_29 h0, og64_29 h0, of64_30 h0, og64_30 h0, of64_31 h0, og64_31 h0, of64_32 h0, og64_32 h0, of64_33 h0, og64_33 h0, of64_34 h0, og64_34 h0, of64_35 h0, og64_35 h0, ok64_35 h0, of64_36 h0, og64_36 h0, ok64_36 h0, oa72 h0, ol72 h0, oa73 h0, ol73 h0, oa74 h0, ol74 h0, k1, geN (show i < 1000 by omega) (show c < 1000 by omega), e1, b8 hi8, c8 hi8, j1, j2, j3, hA, hh, q, hC, z10, z01, hnx, iff]
          simp
theorem x_isFit {X : Scr} {w : AW} {A B C : Nat → Int32} {c x : Nat} (sv : SV A B C c) (sm : SM w A B C c) (hx : x < 800) : Z X 150 0 [.ref 64, .int (nI x), uns, uns] [] w = some (some (.int (bN (dig x && okL A B C x c 0))), w) := by
  have e1 : nI x - nI x / 10 * 10 = nI (x % 10) := pk_rem (d := 10) (by omega) (by decide) (by decide)
  have e3 : nI x / 10 = nI (x / 10) := pk_div (d := 10) (by omega) (by decide) (by decide)
  rw [e3] at e1
  have e4 : nI (x / 10) - nI (x / 10) / 10 * 10 = nI (x / 10 % 10) := pk_rem (d := 10) (by omega) (by decide) (by decide)
  have f1 : (1 ≤ nI (x / 10 % 10) ∧ nI (x / 10 % 10) ≤ 7) = (1 ≤ x / 10 % 10 ∧ x / 10 % 10 ≤ 7) := by
    rw [show (1 : Int32) = nI 1 from rfl, show (7 : Int32) = nI 7 from rfl, leN (by omega) (by omega), leN (by omega) (by omega)]
  have f2 : (1 ≤ nI (x % 10) ∧ nI (x % 10) ≤ 6) = (1 ≤ x % 10 ∧ x % 10 ≤ 6) := by
    rw [show (1 : Int32) = nI 1 from rfl, show (6 : Int32) = nI 6 from rfl, leN (by omega) (by omega), leN (by omega) (by omega)]
  have z0 : nI 0 = 0 := rfl
  have lt := fun hd => x_isFitL (X := X) sv sm hx c 0 (by omega) true (fun _ => hd)
  have lf := x_isFitL (X := X) sv sm hx c 0 (by omega) false (fun q => by cases q)
  rw [z0, bN_f] at lf
  simp only [z0, bN_t] at lt
  by_cases q1 : 1 ≤ x / 10 % 10 ∧ x / 10 % 10 ≤ 7
  · by_cases q2 : 1 ≤ x % 10 ∧ x % 10 ≤ 6
    · have hdg : dig x = true := by simp [dig, q1, q2]
      simp only [z150_0, z150_1, z150_3, z150_4, z150_6, z150_7, z150_8, z150_9, z150_12, z150_15, z150_18, z150_19, z150_21, z150_22, z150_23, z150_24, z150_27, z150_30, z150_33, z150_34, z150_37, z150_38, z150_39, z150_40, z150_42, z150_43, z150_46, z150_49, z150_50, z150_53, z150_54, z150_55, z150_58, z150_59, z150_60, z150_63, z150_64, z150_67, z150_68, z150_69, z150_72, z150_73, z150_76, z150_77, z150_78, z150_81, z150_82, z150_83, z150_84, z150_87, z150_88, z150_91, z150_92, z150_95, z150_96, z150_99, z150_100, z150_101, z150_104, z150_107, z150_108, Option.bind_some, Option.toList_some, Option.toList_none, List.cons_append, List.nil_append, sc_i, sc_r, sc_l, sc_u, sc_s, List.length_nil, List.length_cons, Nat.reduceAdd, Nat.reduceLeDiff, Nat.zero_le, le4_0, le4_1, le4_2, le4_3, rz0, rz1, rzt, eq_self, fo_f, fo_a, fo_j, co_f, co_a, co_j, ao_f, ao_a, ao_j, zo_f, zo_a, zo_j, jo_f, jo_a, jo_j, al_f, al_a, al_j, fg_a, fg_j, ag_f, ag_j, jg_f, jg_a, fk_f, fk_a, fk_j, fi_a, fi_j, tI_0, tI_n0, if_true, if_false, ne_eq, not_true_eq_false, not_false_eq_true, and_self, Bool.false_eq_true, i10, e3, e4, e1, x_mIn, mInC (lo := 1) (hi := 7) 1 7 rfl rfl, mInC (lo := 1) (hi := 6) 1 6 rfl rfl, f1, f2, q1, q2, z10, tTr, lt q2.1, hdg]
    · have hdg : dig x = false := by
        rcases Bool.eq_false_or_eq_true (dig x) with g | g
        · simp only [dig, Bool.and_eq_true, decide_eq_true_eq] at g
          exact absurd g.2 q2
        · exact g
      simp only [z150_0, z150_1, z150_3, z150_4, z150_6, z150_7, z150_8, z150_9, z150_12, z150_15, z150_18, z150_19, z150_21, z150_22, z150_23, z150_24, z150_27, z150_30, z150_33, z150_34, z150_37, z150_38, z150_39, z150_40, z150_42, z150_43, z150_46, z150_49, z150_50, z150_53, z150_54, z150_55, z150_58, z150_59, z150_60, z150_63, z150_64, z150_67, z150_68, z150_69, z150_72, z150_73, z150_76, z150_77, z150_78, z150_81, z150_82, z150_83, z150_84, z150_87, z150_88, z150_91, z150_92, z150_95, z150_96, z150_99, z150_100, z150_101, z150_104, z150_107, z150_108, Option.bind_some, Option.toList_some, Option.toList_none, List.cons_append, List.nil_append, sc_i, sc_r, sc_l, sc_u, sc_s, List.length_nil, List.length_cons, Nat.reduceAdd, Nat.reduceLeDiff, Nat.zero_le, le4_0, le4_1, le4_2, le4_3, rz0, rz1, rzt, eq_self, fo_f, fo_a, fo_j, co_f, co_a, co_j, ao_f, ao_a, ao_j, zo_f, zo_a, zo_j, jo_f, jo_a, jo_j, al_f, al_a, al_j, fg_a, fg_j, ag_f, ag_j, jg_f, jg_a, fk_f, fk_a, fk_j, fi_a, fi_j, tI_0, tI_n0, if_true, if_false, ne_eq, not_true_eq_false, not_false_eq_true, and_self, Bool.false_eq_true, i10, e3, e4, e1, x_mIn, mInC (lo := 1) (hi := 7) 1 7 rfl rfl, mInC (lo := 1) (hi := 6) 1 6 rfl rfl, f1, f2, q1, q2, z10, tTr, tFa, lf, hdg]
  · have hdg : dig x = false := by
      rcases Bool.eq_false_or_eq_true (dig x) with g | g
      · simp only [dig, Bool.and_eq_true, decide_eq_true_eq] at g
        exact absurd g.1 q1
      · exact g
    simp only [z150_0, z150_1, z150_3, z150_4, z150_6, z150_7, z150_8, z150_9, z150_12, z150_15, z150_18, z150_19, z150_21, z150_22, z150_23, z150_24, z150_27, z150_30, z150_33, z150_34, z150_37, z150_38, z150_39, z150_40, z150_42, z150_43, z150_46, z150_49, z150_50, z150_53, z150_54, z150_55, z150_58, z150_59, z150_60, z150_63, z150_64, z150_67, z150_68, z150_69, z150_72, z150_73, z150_76, z150_77, z150_78, z150_81, z150_82, z150_83, z150_84, z150_87, z150_88, z150_91, z150_92, z150_95, z150_96, z150_99, z150_100, z150_101, z150_104, z150_107, z150_108, Option.bind_some, Option.toList_some, Option.toList_none, List.cons_append, List.nil_append, sc_i, sc_r, sc_l, sc_u, sc_s, List.length_nil, List.length_cons, Nat.reduceAdd, Nat.reduceLeDiff, Nat.zero_le, le4_0, le4_1, le4_2, le4_3, rz0, rz1, rzt, eq_self, fo_f, fo_a, fo_j, co_f, co_a, co_j, ao_f, ao_a, ao_j, zo_f, zo_a, zo_j, jo_f, jo_a, jo_j, al_f, al_a, al_j, fg_a, fg_j, ag_f, ag_j, jg_f, jg_a, fk_f, fk_a, fk_j, fi_a, fi_j, tI_0, tI_n0, if_true, if_false, ne_eq, not_true_eq_false, not_false_eq_true, and_self, Bool.false_eq_true, i10, e3, e4, e1, x_mIn, mInC (lo := 1) (hi := 7) 1 7 rfl rfl, f1, q1, z10, tTr, tFa, lf, hdg]
def fitR (k : Int32) : List Nat → Nat → Int32
  | [], c => if k = -1 then nI c else -6
  | x :: R, c => if nI c = k then nI x else fitR k R (c + 1)
theorem x_fitsML {X : Scr} {w : AW} {A B C : Nat → Int32} {c : Nat} {k : Int32} (sv : SV A B C c) (sm : SM w A B C c) : ∀ (n x : Nat), x + n = 800 → ∀ j : Nat, Z X 149 4 [.ref 64, .int k, .int (nI j), .int (nI x)] [] w = some (some (.int (fitR k (fitL A B C c x n) j)), w) := by
  have h0 := sm.1
  intro n
  induction n with
  | zero =>
    intro x hx j
    have hx : x = 800 := hx
    subst hx
    have e : nI 800 ≥ 800 := by decide
    rw [z149_4]
    by_cases q : k = -1
    · simp only [z149_0, z149_1, z149_2, z149_3, z149_5, z149_8, z149_11, z149_12, z149_13, z149_16, z149_19, z149_20, z149_21, z149_24, z149_25, z149_26, z149_29, z149_32, z149_35, z149_36, z149_37, z149_40, z149_41, z149_44, z149_46, Option.bind_some, Option.toList_some, Option.toList_none, List.cons_append, List.nil_append, sc_i, sc_r, sc_l, sc_u, sc_s, List.length_nil, List.length_cons, Nat.reduceAdd, Nat.reduceLeDiff, Nat.zero_le, le4_0, le4_1, le4_2, le4_3, rz0, rz1, rzt, eq_self, tI_0, tI_n0, if_true, if_false, ne_eq, not_true_eq_false, not_false_eq_true, and_self, Bool.false_eq_true, e, q]
      simp [fitL, fitR]
    · simp only [z149_0, z149_1, z149_2, z149_3, z149_5, z149_8, z149_11, z149_12, z149_13, z149_16, z149_19, z149_20, z149_21, z149_24, z149_25, z149_26, z149_29, z149_32, z149_35, z149_36, z149_37, z149_40, z149_41, z149_44, z149_46, Option.bind_some, Option.toList_some, Option.toList_none, List.cons_append, List.nil_append, sc_i, sc_r, sc_l, sc_u, sc_s, List.length_nil, List.length_cons, Nat.reduceAdd, Nat.reduceLeDiff, Nat.zero_le, le4_0, le4_1, le4_2, le4_3, rz0, rz1, rzt, eq_self, tI_0, tI_n0, if_true, if_false, ne_eq, not_true_eq_false, not_false_eq_true, and_self, Bool.false_eq_true, e, q]
      simp [fitL, fitR, q]
  | succ n ih =>
    intro x hx j
    have e : (nI x ≥ 800) = (800 ≤ x) := geN (b := 800) (by omega) (by decide)
    have e' : ¬ 800 ≤ x := by omega
    have hf := x_isFit (X := X) sv sm (show x < 800 by omega)
    have hl : fitL A B C c x (n + 1) = (if (dig x && okL A B C x c 0) = true then x :: fitL A B C c (x + 1) n else fitL A B C c (x + 1) n) := by
      unfold fitL
      rw [List.range'_succ, List.filter_cons]
    rw [hl, z149_4]
    by_cases q : (dig x && okL A B C x c 0) = true
    · rw [q, bN_t] at hf
      rw [if_pos q, fitR]
      by_cases q2 : nI j = k
      · simp only [z149_0, z149_1, z149_2, z149_3, z149_5, z149_8, z149_11, z149_12, z149_13, z149_16, z149_19, z149_20, z149_21, z149_24, z149_25, z149_26, z149_29, z149_32, z149_35, z149_36, z149_37, z149_40, z149_41, z149_44, z149_46, Option.bind_some, Option.toList_some, Option.toList_none, List.cons_append, List.nil_append, sc_i, sc_r, sc_l, sc_u, sc_s, List.length_nil, List.length_cons, Nat.reduceAdd, Nat.reduceLeDiff, Nat.zero_le, le4_0, le4_1, le4_2, le4_3, rz0, rz1, rzt, eq_self, tI_0, tI_n0, if_true, if_false, ne_eq, not_true_eq_false, not_false_eq_true, and_self, Bool.false_eq_true, e, e', oc64 h0, of64_0 h0, og64_0 h0, ok64_0 h0, of64_1 h0, og64_1 h0, of64_2 h0, og64_2 h0, of64_3 h0, og64_3 h0, of64_4 h0, og64_4 h0, of64_5 h0, og64_5 h0, ok64_5 h0, of64_6 h0, og64_6 h0, ok64_6 h0, of64_7 h0, og64_7 h0, of64_8 h0, og64_8 h0, of64_9 h0, og64_9 h0, of64_10 h0, og64_10 h0, of64_11 h0, og64_11 h0, of64_12 h0, og64_12 h0, of64_13 h0, og64_13 h0, ok64_13 h0, of64_14 h0, og64_14 h0, of64_15 h0, og64_15 h0, ok64_15 h0, of64_16 h0, og64_16 h0, of64_17 h0, og64_17 h0, of64_18 h0, og64_18 h0, of64_19 h0, og64_19 h0, of64_20 h0, og64_20 h0, of64_21 h0, og64_21 h0, ok64_21 h0, of64_22 h0, og64_22 h0, of64_23 h0, og64_23 h0, ok64_23 h0, of64_24 h0, og64_24 h0, ok64_24 h0, of64_25 h0, og64_25 h0, ok64_25 h0, of64_26 h0, og64_26 h0, ok64_26 h0, of64_27 h0, og64_27 h0, ok64_27 h0, of64_28 h0, og64_28 h0, of64_29 h0, og64_29 h0, of64_30 h0, og64_30 h0, of64_31 h0, og64_31 h0, of64_32 h0, og64_32 h0, of64_33 h0, og64_33 h0, of64_34 h0, og64_34 h0, of64_35 h0, og64_35 h0, ok64_35 h0, of64_36 h0, og64_36 h0, ok64_36 h0, hf, z10, q2]
      · simp only [z149_0, z149_1, z149_2, z149_3, z149_5, z149_8, z149_11, z149_12, z149_13, z149_16, z149_19, z149_20, z149_21, z149_24, z149_25, z149_26, z149_29, z149_32, z149_35, z149_36, z149_37, z149_40, z149_41, z149_44, z149_46, Option.bind_some, Option.toList_some, Option.toList_none, List.cons_append, List.nil_append, sc_i, sc_r, sc_l, sc_u, sc_s, List.length_nil, List.length_cons, Nat.reduceAdd, Nat.reduceLeDiff, Nat.zero_le, le4_0, le4_1, le4_2, le4_3, rz0, rz1, rzt, eq_self, tI_0, tI_n0, if_true, if_false, ne_eq, not_true_eq_false, not_false_eq_true, and_self, Bool.false_eq_true, e, e', oc64 h0, of64_0 h0, og64_0 h0, ok64_0 h0, of64_1 h0, og64_1 h0, of64_2 h0, og64_2 h0, of64_3 h0, og64_3 h0, of64_4 h0, og64_4 h0, of64_5 h0, og64_5 h0, ok64_5 h0, of64_6 h0, og64_6 h0, ok64_6 h0, of64_7 h0, og64_7 h0, of64_8 h0, og64_8 h0, of64_9 h0, og64_9 h0, of64_10 h0, og64_10 h0, of64_11 h0, og64_11 h0, of64_12 h0, og64_12 h0, of64_13 h0, og64_13 h0, ok64_13 h0, of64_14 h0, og64_14 h0, of64_15 h0, og64_15 h0, ok64_15 h0, of64_16 h0, og64_16 h0, of64_17 h0, og64_17 h0, of64_18 h0, og64_18 h0, of64_19 h0, og64_19 h0, of64_20 h0, og64_20 h0, of64_21 h0, og64_21 h0, ok64_21 h0, of64_22 h0, og64_22 h0, of64_23 h0, og64_23 h0, ok64_23 h0, of64_24 h0, og64_24 h0, ok64_24 h0, of64_25 h0, og64_25 h0, ok64_25 h0, of64_26 h0, og64_26 h0, ok64_26 h0, of64_27 h0, og64_27 h0, ok64_27 h0, of64_28 h0, og64_28 h0, of64_29 h0, og64_29 h0, of64_30 h0, og64_30 h0, of64_31 h0, og64_31 h0, of64_32 h0, og64_32 h0, of64_33 h0, og64_33 h0, of64_34 h0, og64_34 h0, of64_35 h0, og64_35 h0, ok64_35 h0, of64_36 h0, og64_36 h0, ok64_36 h0, hf, z10, q2, nI_1, ih (x + 1) (by omega)]
    · have q' : (dig x && okL A B C x c 0) = false := by simpa using q
      rw [q', bN_f] at hf
      rw [if_neg q]
      simp only [z149_0, z149_1, z149_2, z149_3, z149_5, z149_8, z149_11, z149_12, z149_13, z149_16, z149_19, z149_20, z149_21, z149_24, z149_25, z149_26, z149_29, z149_32, z149_35, z149_36, z149_37, z149_40, z149_41, z149_44, z149_46, Option.bind_some, Option.toList_some, Option.toList_none, List.cons_append, List.nil_append, sc_i, sc_r, sc_l, sc_u, sc_s, List.length_nil, List.length_cons, Nat.reduceAdd, Nat.reduceLeDiff, Nat.zero_le, le4_0, le4_1, le4_2, le4_3, rz0, rz1, rzt, eq_self, tI_0, tI_n0, if_true, if_false, ne_eq, not_true_eq_false, not_false_eq_true, and_self, Bool.false_eq_true, e, e', oc64 h0, of64_0 h0, og64_0 h0, ok64_0 h0, of64_1 h0, og64_1 h0, of64_2 h0, og64_2 h0, of64_3 h0, og64_3 h0, of64_4 h0, og64_4 h0, of64_5 h0, og64_5 h0, ok64_5 h0, of64_6 h0, og64_6 h0, ok64_6 h0, of64_7 h0, og64_7 h0, of64_8 h0, og64_8 h0, of64_9 h0, og64_9 h0, of64_10 h0, og64_10 h0, of64_11 h0, og64_11 h0, of64_12 h0, og64_12 h0, of64_13 h0, og64_13 h0, ok64_13 h0, of64_14 h0, og64_14 h0, of64_15 h0, og64_15 h0, ok64_15 h0, of64_16 h0, og64_16 h0, of64_17 h0, og64_17 h0, of64_18 h0, og64_18 h0, of64_19 h0, og64_19 h0, of64_20 h0, og64_20 h0, of64_21 h0, og64_21 h0, ok64_21 h0, of64_22 h0, og64_22 h0, of64_23 h0, og64_23 h0, ok64_23 h0, of64_24 h0, og64_24 h0, ok64_24 h0, of64_25 h0, og64_25 h0, ok64_25 h0, of64_26 h0, og64_26 h0, ok64_26 h0, of64_27 h0, og64_27 h0, ok64_27 h0, of64_28 h0, og64_28 h0, of64_29 h0, og64_29 h0, of64_30 h0, og64_30 h0, of64_31 h0, og64_31 h0, of64_32 h0, og64_32 h0, of64_33 h0, og64_33 h0, of64_34 h0, og64_34 h0, of64_35 h0, og64_35 h0, ok64_35 h0, of64_36 h0, og64_36 h0, ok64_36 h0, hf, nI_1, ih (x + 1) (by omega)]
theorem x_fitsM {X : Scr} {w : AW} {A B C : Nat → Int32} {c : Nat} {k : Int32} (sv : SV A B C c) (sm : SM w A B C c) : Z X 149 0 [.ref 64, .int k, uns, uns] [] w = some (some (.int (fitR k (fitL A B C c 0 800) 0)), w) := by
  have h1 := x_fitsML (X := X) (k := k) sv sm 800 0 rfl 0
  have z0 : nI 0 = 0 := rfl
  rw [z0] at h1
  simp only [z149_0, z149_1, z149_2, z149_3, z149_5, z149_8, z149_11, z149_12, z149_13, z149_16, z149_19, z149_20, z149_21, z149_24, z149_25, z149_26, z149_29, z149_32, z149_35, z149_36, z149_37, z149_40, z149_41, z149_44, z149_46, Option.bind_some, Option.toList_some, Option.toList_none, List.cons_append, List.nil_append, sc_i, sc_r, sc_l, sc_u, sc_s, List.length_nil, List.length_cons, Nat.reduceAdd, Nat.reduceLeDiff, Nat.zero_le, le4_0, le4_1, le4_2, le4_3, rz0, rz1, rzt, eq_self, h1]
theorem fitR_m1 : ∀ (R : List Nat) (c : Nat), c + R.length < 1000 → fitR (-1) R c = nI (c + R.length) := by
  intro R
  induction R with
  | nil => intro c h; rfl
  | cons x R ih =>
    intro c h
    rw [List.length_cons] at h
    have e : ¬ nI c = -1 := fun q => by
      have h1 := nI_toInt (n := c) (by omega)
      rw [q, show (-1 : Int32).toInt = -1 from rfl] at h1
      omega
    rw [fitR, if_neg e, ih (c + 1) (by omega), List.length_cons]
    congr 1
    omega
theorem fitR_in : ∀ (R : List Nat) (c k : Nat), c ≤ k → k < c + R.length → c + R.length < 1000 → fitR (nI k) R c = nI (R[k - c]?.getD 0) := by
  intro R
  induction R with
  | nil => intro c k h1 h2; simp at h2; omega
  | cons x R ih =>
    intro c k h1 h2 h3
    rw [List.length_cons] at h2 h3
    rw [fitR]
    by_cases e : c = k
    · subst e
      rw [if_pos rfl, Nat.sub_self]
      rfl
    · have e' : ¬ nI c = nI k := fun q => e ((nI_eq (by omega) (by omega)).mp q)
      rw [if_neg e', ih (c + 1) k (by omega) (by omega) (by omega)]
      have : k - c = (k - (c + 1)) + 1 := by omega
      rw [this, List.getElem?_cons_succ]
theorem fitR_out : ∀ (R : List Nat) (c : Nat) (k : Int32), k ≠ -1 → (∀ j, c ≤ j → j < c + R.length → k ≠ nI j) → fitR k R c = -6 := by
  intro R
  induction R with
  | nil => intro c k h1 h2; rw [fitR, if_neg h1]
  | cons x R ih =>
    intro c k h1 h2
    rw [fitR, if_neg (fun q => h2 c (Nat.le_refl c) (by rw [List.length_cons]; omega) q.symm)]
    exact ih (c + 1) k h1 (fun j g1 g2 => h2 j (by omega) (by rw [List.length_cons]; omega))
/-- what SI says of the sights -/
theorem SI_sv {w : AW} (h : SI w) : ∃ c, SV (aget w 24) (aget w 25) (aget w 26) c ∧ fI w 23 3 = nI c ∧ ∀ w1, OK w1 → same w w1 → SM w1 (aget w 24) (aget w 25) (aget w 26) c := by
  obtain ⟨h0, h1, h2, h3, h4, h5, h6, h7, h8, h9⟩ := id h
  obtain ⟨g1, c, g2, g3⟩ := h5
  refine ⟨c, ⟨g2, fun i hi => ⟨?_, ?_⟩⟩, g3, fun w1 ok hs => ⟨ok, ?_, fun i hi => ?_⟩⟩
  · exact (g1 i hi).1
  · obtain ⟨m, hm, e⟩ := (g1 i hi).2.2
    rcases Nat.le_one_iff_eq_zero_or_eq_one.mp hm with rfl | rfl
    · exact Or.inl e
    · exact Or.inr e
  · rw [hs.2 (64, 13) (by decide), ← h6.2, g3]
  · rw [hs.1 72 (by decide), hs.1 73 (by decide), hs.1 74 (by decide)]
    exact ⟨(h6.1 i hi).1.symm, (h6.1 i hi).2.1.symm, (h6.1 i hi).2.2.symm⟩
theorem op_fits {X : Scr} {w : AW} (h : SI w) {k : Int32} : both X 70 149 [.ref 0, .int k] [.ref 64, .int k, uns, uns] w := by
  have h0 := h.1
  obtain ⟨c, sv, hc, hm⟩ := SI_sv h
  obtain ⟨w1, q1, q2, q3⟩ := x_col (X := X) sv h0 hc rfl rfl rfl
  have ok1 := q2.1
  have sm := hm w1 ok1 q3
  have hM := x_fitsM (X := X) (k := k) sv sm
  have hlen := q2.2.2.2.2.2.2.1
  have hcnt := q2.2.2.2.2.2.1
  have hcd := q2.2.2.2.2.2.2.2
  generalize fitL (aget w 24) (aget w 25) (aget w 26) c 0 800 = L at *
  refine ⟨.int (fitR k L 0), w1, w1, ?_, hM, SI_same h ok1 q3⟩
  by_cases e1 : k = -1
  · subst e1
    rw [fitR_m1 L 0 (by omega), Nat.zero_add]
    simp only [z70_0, z70_1, z70_4, z70_5, z70_8, z70_11, z70_12, z70_13, z70_16, z70_17, z70_20, z70_23, z70_24, z70_25, z70_26, z70_27, z70_30, z70_33, z70_34, z70_35, z70_38, z70_41, z70_42, z70_45, z70_48, z70_49, z70_52, z70_55, z70_56, z70_57, z70_60, z70_62, Option.bind_some, Option.toList_some, Option.toList_none, List.cons_append, List.nil_append, sc_i, sc_r, sc_l, sc_u, sc_s, List.length_nil, List.length_cons, Nat.reduceAdd, Nat.reduceLeDiff, Nat.zero_le, le4_0, le4_1, le4_2, le4_3, rz0, rz1, rzt, eq_self, tI_0, tI_n0, if_true, if_false, ne_eq, not_true_eq_false, not_false_eq_true, and_self, Bool.false_eq_true, oc0 h0, of0_0 h0, og0_0 h0, of0_1 h0, og0_1 h0, of0_2 h0, og0_2 h0, of0_3 h0, og0_3 h0, of0_4 h0, og0_4 h0, of0_5 h0, og0_5 h0, of0_6 h0, og0_6 h0, of0_7 h0, og0_7 h0, of0_8 h0, og0_8 h0, of0_9 h0, og0_9 h0, of0_10 h0, og0_10 h0, oc27 h0, of27_0 h0, og27_0 h0, of27_1 h0, og27_1 h0, of27_2 h0, og27_2 h0, ok27_2 h0, of27_3 h0, og27_3 h0, ok27_3 h0, of27_4 h0, og27_4 h0, ok27_4 h0, q1, oc0 ok1, of0_0 ok1, og0_0 ok1, of0_1 ok1, og0_1 ok1, of0_2 ok1, og0_2 ok1, of0_3 ok1, og0_3 ok1, of0_4 ok1, og0_4 ok1, of0_5 ok1, og0_5 ok1, of0_6 ok1, og0_6 ok1, of0_7 ok1, og0_7 ok1, of0_8 ok1, og0_8 ok1, of0_9 ok1, og0_9 ok1, of0_10 ok1, og0_10 ok1, oc27 ok1, of27_0 ok1, og27_0 ok1, of27_1 ok1, og27_1 ok1, of27_2 ok1, og27_2 ok1, ok27_2 ok1, of27_3 ok1, og27_3 ok1, ok27_3 ok1, of27_4 ok1, og27_4 ok1, ok27_4 ok1, hcnt]
  · by_cases e2 : 0 ≤ k ∧ k ≤ nI L.length - 1
    · have e3 : ∃ j, j < L.length ∧ k = nI j := by
        obtain ⟨a1, a2⟩ := e2
        by_cases z : L.length = 0
        · rw [z] at a2
          have : nI 0 - 1 = -1 := rfl
          rw [this, Int32.le_iff_toInt_le, show (-1 : Int32).toInt = -1 from rfl] at a2
          rw [Int32.le_iff_toInt_le, show (0 : Int32).toInt = 0 from rfl] at a1
          omega
        · have e : nI L.length - 1 = nI (L.length - 1) := pk_sub (a := L.length) (b := 1) (by omega)
          rw [e] at a2
          obtain ⟨j, hj, ej⟩ := rng_of (n := L.length - 1) (nI_toInt (by omega)) a1 a2
          exact ⟨j, by omega, ej⟩
      obtain ⟨j, hj, rfl⟩ := e3
      have hb : inB (nI j) 336 = true := inB_nI (by omega) (by decide)
      have hcl : (nI j).toNatClampNeg = j := nI_clamp (by omega)
      have hg : (nI j ≥ 336) = (336 ≤ j) := geN (b := 336) (by omega) (by decide)
      have hg' : ¬ 336 ≤ j := by omega
      rw [fitR_in L 0 j (by omega) (by omega) (by omega), Nat.sub_zero, ← hcd j hj]
      simp only [z70_0, z70_1, z70_4, z70_5, z70_8, z70_11, z70_12, z70_13, z70_16, z70_17, z70_20, z70_23, z70_24, z70_25, z70_26, z70_27, z70_30, z70_33, z70_34, z70_35, z70_38, z70_41, z70_42, z70_45, z70_48, z70_49, z70_52, z70_55, z70_56, z70_57, z70_60, z70_62, Option.bind_some, Option.toList_some, Option.toList_none, List.cons_append, List.nil_append, sc_i, sc_r, sc_l, sc_u, sc_s, List.length_nil, List.length_cons, Nat.reduceAdd, Nat.reduceLeDiff, Nat.zero_le, le4_0, le4_1, le4_2, le4_3, rz0, rz1, rzt, eq_self, tI_0, tI_n0, if_true, if_false, ne_eq, not_true_eq_false, not_false_eq_true, and_self, Bool.false_eq_true, oc0 h0, of0_0 h0, og0_0 h0, of0_1 h0, og0_1 h0, of0_2 h0, og0_2 h0, of0_3 h0, og0_3 h0, of0_4 h0, og0_4 h0, of0_5 h0, og0_5 h0, of0_6 h0, og0_6 h0, of0_7 h0, og0_7 h0, of0_8 h0, og0_8 h0, of0_9 h0, og0_9 h0, of0_10 h0, og0_10 h0, oc27 h0, of27_0 h0, og27_0 h0, of27_1 h0, og27_1 h0, of27_2 h0, og27_2 h0, ok27_2 h0, of27_3 h0, og27_3 h0, ok27_3 h0, of27_4 h0, og27_4 h0, ok27_4 h0, q1, oc0 ok1, of0_0 ok1, og0_0 ok1, of0_1 ok1, og0_1 ok1, of0_2 ok1, og0_2 ok1, of0_3 ok1, og0_3 ok1, of0_4 ok1, og0_4 ok1, of0_5 ok1, og0_5 ok1, of0_6 ok1, og0_6 ok1, of0_7 ok1, og0_7 ok1, of0_8 ok1, og0_8 ok1, of0_9 ok1, og0_9 ok1, of0_10 ok1, og0_10 ok1, oc27 ok1, of27_0 ok1, og27_0 ok1, of27_1 ok1, og27_1 ok1, of27_2 ok1, og27_2 ok1, ok27_2 ok1, of27_3 ok1, og27_3 ok1, ok27_3 ok1, of27_4 ok1, og27_4 ok1, ok27_4 ok1, oa28 ok1, ol28 ok1, hcnt, e1, x_isIn, e2, hg, hg', hb, hcl]
    · have e3 : ∀ j, 0 ≤ j → j < 0 + L.length → k ≠ nI j := by
        intro j _ hj q
        refine e2 ⟨by rw [q]; exact nI_pos' (by omega), ?_⟩
        have e : nI L.length - 1 = nI (L.length - 1) := pk_sub (a := L.length) (b := 1) (by omega)
        rw [e, q]
        exact nI_le (by omega) (by omega)
      rw [fitR_out L 0 k e1 e3]
      simp only [z70_0, z70_1, z70_4, z70_5, z70_8, z70_11, z70_12, z70_13, z70_16, z70_17, z70_20, z70_23, z70_24, z70_25, z70_26, z70_27, z70_30, z70_33, z70_34, z70_35, z70_38, z70_41, z70_42, z70_45, z70_48, z70_49, z70_52, z70_55, z70_56, z70_57, z70_60, z70_62, Option.bind_some, Option.toList_some, Option.toList_none, List.cons_append, List.nil_append, sc_i, sc_r, sc_l, sc_u, sc_s, List.length_nil, List.length_cons, Nat.reduceAdd, Nat.reduceLeDiff, Nat.zero_le, le4_0, le4_1, le4_2, le4_3, rz0, rz1, rzt, eq_self, tI_0, tI_n0, if_true, if_false, ne_eq, not_true_eq_false, not_false_eq_true, and_self, Bool.false_eq_true, oc0 h0, of0_0 h0, og0_0 h0, of0_1 h0, og0_1 h0, of0_2 h0, og0_2 h0, of0_3 h0, og0_3 h0, of0_4 h0, og0_4 h0, of0_5 h0, og0_5 h0, of0_6 h0, og0_6 h0, of0_7 h0, og0_7 h0, of0_8 h0, og0_8 h0, of0_9 h0, og0_9 h0, of0_10 h0, og0_10 h0, oc27 h0, of27_0 h0, og27_0 h0, of27_1 h0, og27_1 h0, of27_2 h0, og27_2 h0, ok27_2 h0, of27_3 h0, og27_3 h0, ok27_3 h0, of27_4 h0, og27_4 h0, ok27_4 h0, q1, oc0 ok1, of0_0 ok1, og0_0 ok1, of0_1 ok1, og0_1 ok1, of0_2 ok1, og0_2 ok1, of0_3 ok1, og0_3 ok1, of0_4 ok1, og0_4 ok1, of0_5 ok1, og0_5 ok1, of0_6 ok1, og0_6 ok1, of0_7 ok1, og0_7 ok1, of0_8 ok1, og0_8 ok1, of0_9 ok1, og0_9 ok1, of0_10 ok1, og0_10 ok1, oc27 ok1, of27_0 ok1, og27_0 ok1, of27_1 ok1, og27_1 ok1, of27_2 ok1, og27_2 ok1, ok27_2 ok1, of27_3 ok1, og27_3 ok1, ok27_3 ok1, of27_4 ok1, og27_4 ok1, ok27_4 ok1, oa28 ok1, ol28 ok1, hcnt, e1, x_isIn, e2]
