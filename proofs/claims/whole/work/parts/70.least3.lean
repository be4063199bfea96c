/-! sentences, the least: the reference -/
def cvS (s e : Nat) : Bool := canN s (e / 100) (e / 10 % 10) (e % 10)
theorem bt_le {s d : Nat} : bt s d ≤ 1 := by
  unfold bt
  by_cases h : Nat.testBit s d = true
  · rw [if_pos h]; exact Nat.le_refl 1
  · rw [if_neg h]; exact Nat.zero_le 1
theorem bt_k {s d : Nat} (hs : s < 1024) (hd : d < 10) : (nI s >>> (nI d &&& 31)) &&& 1 = nI (bt s d) := (tb_k s hs d hd).2
theorem cvS_at {s m r d : Nat} (hr : r < 10) (hd : d < 10) : cvS s (100 * m + 10 * r + d) = canN s m r d := by
  unfold cvS
  rw [show (100 * m + 10 * r + d) / 100 = m by omega, show (100 * m + 10 * r + d) / 10 % 10 = r by omega, show (100 * m + 10 * r + d) % 10 = d by omega]
theorem b1000 {j : Nat} (hj : j < 1000) : inB (nI j) 1000 = true := inB_nI hj (by decide)
theorem c1000 {j : Nat} (hj : j < 1000) : (nI j).toNatClampNeg = j := nI_clamp (by omega)
theorem bN_and (b : Bool) : bN b &&& 1 = bN b := by cases b <;> rfl
def CWs (w : AW) (s n : Nat) : Prop := OK w ∧ ∀ t, t < n → aget w 84 t = bN (cvS s t)
theorem m100 {a : Nat} : (100 : Int32) * nI a = nI (100 * a) := by rw [show (100 : Int32) = nI 100 from rfl, pk_mul]
theorem m10 {a : Nat} : (10 : Int32) * nI a = nI (10 * a) := by rw [show (10 : Int32) = nI 10 from rfl, pk_mul]
theorem x_cfL {X : Scr} {w : AW} {s j m r d : Nat} (hs : s < 1024) (hj : j < 8) (hm : m < 9) (hr : r < 10) (hd : d < 10) (hsj : aget w 67 j = nI s) (cw : CWs w s (100 * (m + 1))) : ∀ (n k : Nat), k + n = 10 → ∀ (a : Bool) (v7 : Value), isSec v7 = false → Z X 146 6 [.ref 64, .int (nI j), .int (nI (m + 1)), .int (nI r), .int (nI d), .int (bN a), .int (nI k), v7] [] w = some (some (.int (bN (cfN (canN s m) s r d n k a))), w) := by
  obtain ⟨h0, hc⟩ := cw
  intro n
  induction n with
  | zero =>
    intro k hk a v7 h7
    have hk : k = 10 := hk
    subst hk
    have e : nI 10 ≥ 10 := by decide
    rw [z146_6]
    cases a <;> simp only [z146_0, z146_1, z146_3, z146_4, z146_8, z146_10, z146_13, z146_14, z146_15, z146_18, z146_19, z146_20, z146_22, z146_23, z146_24, z146_25, z146_26, z146_28, z146_30, z146_33, z146_35, z146_37, z146_40, z146_42, z146_45, z146_46, z146_49, z146_51, z146_52, z146_53, z146_54, z146_55, z146_57, z146_59, z146_60, z146_61, z146_63, z146_64, z146_65, z146_68, z146_69, z146_72, z146_73, z146_75, z146_78, z146_81, z146_83, Option.bind_some, Option.toList_some, Option.toList_none, List.cons_append, List.nil_append, sc_i, sc_r, sc_l, sc_u, sc_s, List.length_nil, List.length_cons, Nat.reduceAdd, Nat.reduceLeDiff, Nat.zero_le, le4_0, le4_1, le4_2, le4_3, rz0, rz1, rzt, eq_self, tI_0, tI_n0, if_true, if_false, ne_eq, not_true_eq_false, not_false_eq_true, and_self, Bool.false_eq_true, e, bN_t, bN_f, cfN]
  | succ n ih =>
    intro k hk a v7 h7
    have hk10 : k < 10 := by omega
    have e : ¬ nI k ≥ 10 := i32_nle.mpr (by rw [show (10 : Int32) = nI 10 from rfl]; exact nI_lt (by omega) (by decide))
    have hb := bt_le (s := s) (d := k)
    have hbk := bt_k hs hk10
    rw [z146_6, cfN]
    have it := fun (v : Value) (hv : isSec v = false) => ih (k + 1) (by omega) true v hv
    have iff := fun (v : Value) (hv : isSec v = false) => ih (k + 1) (by omega) false v hv
    rw [bN_t] at it
    rw [bN_f] at iff
    cases a with
    | true =>
      have z10 : ¬ (1 : Int32) = 0 := by decide
      simp only [z146_0, z146_1, z146_3, z146_4, z146_8, z146_10, z146_13, z146_14, z146_15, z146_18, z146_19, z146_20, z146_22, z146_23, z146_24, z146_25, z146_26, z146_28, z146_30, z146_33, z146_35, z146_37, z146_40, z146_42, z146_45, z146_46, z146_49, z146_51, z146_52, z146_53, z146_54, z146_55, z146_57, z146_59, z146_60, z146_61, z146_63, z146_64, z146_65, z146_68, z146_69, z146_72, z146_73, z146_75, z146_78, z146_81, z146_83, Option.bind_some, Option.toList_some, Option.toList_none, List.cons_append, List.nil_append, sc_i, sc_r, sc_l, sc_u, sc_s, List.length_nil, List.length_cons, Nat.reduceAdd, Nat.reduceLeDiff, Nat.zero_le, le4_0, le4_1, le4_2, le4_3, rz0, rz1, rzt, eq_self, fo_f, fo_a, fo_j, co_f, co_a, co_j, ao_f, ao_a, ao_j, zo_f, zo_a, zo_j, jo_f, jo_a, jo_j, al_f, al_a, al_j, fg_a, fg_j, ag_f, ag_j, jg_f, jg_a, fk_f, fk_a, fk_j, fi_a, fi_j, tI_0, tI_n0, if_true, if_false, ne_eq, not_true_eq_false, not_false_eq_true, and_self, Bool.false_eq_true, e, oc64 h0, of64_0 h0, og64_0 h0, ok64_0 h0, of64_1 h0, og64_1 h0, of64_2 h0, og64_2 h0, of64_3 h0, og64_3 h0, of64_4 h0, og64_4 h0, of64_5 h0, og64_5 h0, ok64_5 h0, of64_6 h0, og64_6 h0, ok64_6 h0, of64_7 h0, og64_7 h0, of64_8 h0, og64_8 h0, of64_9 h0, og64_9 h0, of64_10 h0, og64_10 h0, of64_11 h0, og64_11 h0, of64_12 h0, og64_12 h0, of64_13 h0, og64_13 h0, ok64_13 h0, of64_14 h0, og64_14 h0, of64_15 h0, og64_15 h0, ok64_15 h0, of64_16 h0, og64_16 h0, of64_17 h0, og64_17 h0, of64_18 h0, og64_18 h0, of64_19 h0, og64_19 h0, of64_20 h0, og64_20 h0, of64_21 h0, og64_21 h0, ok64_21 h0, of64_22 h0, og64_22 h0, of64_23 h0, og64_23 h0, ok64_23 h0, of64_24 h0, og64_24 h0, ok64_24 h0, of64_25 h0, og64_25 h0, ok64_25 h0, of64_26 h0, og64_26 h0, ok64_26 h0, of64_27 h0, og64_27 h0, ok64_27 h0, of64_28 h0, og64_28 h0, of64_29 h0, og64_29 h0, of64_30 h0, og64_30 h0, of64_31 h0, og64_31 h0, of64_32 h0, og64_32 h0, of64_33 h0, og64_33 h0, of64_34 h0, og64_34 h0, of64_35 h0, og64_35 h0, ok64_35 h0, of64_36 h0, og64_36 h0, ok64_36 h0, oa67 h0, ol67 h0, b8 hj, c8 hj, hsj, hbk, h7, bN_t, z10, Bool.true_or, nI_1, it _ sc_i]
    | false =>
      unfold cfP
      by_cases c1 : k = d
      · have c1' : (nI k = nI d) = True := by rw [c1]; exact eq_self _
        have c2 : decide (k ≠ d) = false := by simp [c1]
        simp only [z146_0, z146_1, z146_3, z146_4, z146_8, z146_10, z146_13, z146_14, z146_15, z146_18, z146_19, z146_20, z146_22, z146_23, z146_24, z146_25, z146_26, z146_28, z146_30, z146_33, z146_35, z146_37, z146_40, z146_42, z146_45, z146_46, z146_49, z146_51, z146_52, z146_53, z146_54, z146_55, z146_57, z146_59, z146_60, z146_61, z146_63, z146_64, z146_65, z146_68, z146_69, z146_72, z146_73, z146_75, z146_78, z146_81, z146_83, Option.bind_some, Option.toList_some, Option.toList_none, List.cons_append, List.nil_append, sc_i, sc_r, sc_l, sc_u, sc_s, List.length_nil, List.length_cons, Nat.reduceAdd, Nat.reduceLeDiff, Nat.zero_le, le4_0, le4_1, le4_2, le4_3, rz0, rz1, rzt, eq_self, fo_f, fo_a, fo_j, co_f, co_a, co_j, ao_f, ao_a, ao_j, zo_f, zo_a, zo_j, jo_f, jo_a, jo_j, al_f, al_a, al_j, fg_a, fg_j, ag_f, ag_j, jg_f, jg_a, fk_f, fk_a, fk_j, fi_a, fi_j, tI_0, tI_n0, if_true, if_false, ne_eq, not_true_eq_false, not_false_eq_true, and_self, Bool.false_eq_true, e, oc64 h0, of64_0 h0, og64_0 h0, ok64_0 h0, of64_1 h0, og64_1 h0, of64_2 h0, og64_2 h0, of64_3 h0, og64_3 h0, of64_4 h0, og64_4 h0, of64_5 h0, og64_5 h0, ok64_5 h0, of64_6 h0, og64_6 h0, ok64_6 h0, of64_7 h0, og64_7 h0, of64_8 h0, og64_8 h0, of64_9 h0, og64_9 h0, of64_10 h0, og64_10 h0, of64_11 h0, og64_11 h0, of64_12 h0, og64_12 h0, of64_13 h0, og64_13 h0, ok64_13 h0, of64_14 h0, og64_14 h0, of64_15 h0, og64_15 h0, ok64_15 h0, of64_16 h0, og64_16 h0, of64_17 h0, og64_17 h0, of64_18 h0, og64_18 h0, of64_19 h0, og64_19 h0, of64_20 h0, og64_20 h0, of64_21 h0, og64_21 h0, ok64_21 h0, of64_22 h0, og64_22 h0, of64_23 h0, og64_23 h0, ok64_23 h0, of64_24 h0, og64_24 h0, ok64_24 h0, of64_25 h0, og64_25 h0, ok64_25 h0, of64_26 h0, og64_26 h0, ok64_26 h0, of64_27 h0, og64_27 h0, ok64_27 h0, of64_28 h0, og64_28 h0, of64_29 h0, og64_29 h0, of64_30 h0, og64_30 h0, of64_31 h0, og64_31 h0, of64_32 h0, og64_32 h0, of64_33 h0, og64_33 h0, of64_34 h0, og64_34 h0, of64_35 h0, og64_35 h0, ok64_35 h0, of64_36 h0, og64_36 h0, ok64_36 h0, oa67 h0, ol67 h0, b8 hj, c8 hj, hsj, hbk, h7, bN_f, c1', c2, Bool.false_and, Bool.or_self, nI_1, iff _ sc_i]
      · have c1' : (nI k = nI d) = False := by rw [eqN (by omega) (by omega)]; exact eq_false c1
        have c2 : decide (k ≠ d) = true := by simp [c1]
        by_cases c3 : bt s k ≤ r
        · have es : nI r - nI (bt s k) = nI (r - bt s k) := pk_sub c3
          have e0 : ¬ nI (r - bt s k) < 0 := nI_pos (by omega)
          have em : nI (m + 1) - 1 = nI m := pk_sub (b := 1) (by omega)
          have hx : 100 * m + 10 * (r - bt s k) + k < 100 * (m + 1) := by omega
          have hv := hc _ hx
          rw [cvS_at (by omega) hk10] at hv
          cases hq : canN s m (r - bt s k) k with
          | true =>
            rw [hq, bN_t] at hv
            have z10 : ¬ (1 : Int32) = 0 := by decide
            simp only [z146_0, z146_1, z146_3, z146_4, z146_8, z146_10, z146_13, z146_14, z146_15, z146_18, z146_19, z146_20, z146_22, z146_23, z146_24, z146_25, z146_26, z146_28, z146_30, z146_33, z146_35, z146_37, z146_40, z146_42, z146_45, z146_46, z146_49, z146_51, z146_52, z146_53, z146_54, z146_55, z146_57, z146_59, z146_60, z146_61, z146_63, z146_64, z146_65, z146_68, z146_69, z146_72, z146_73, z146_75, z146_78, z146_81, z146_83, Option.bind_some, Option.toList_some, Option.toList_none, List.cons_append, List.nil_append, sc_i, sc_r, sc_l, sc_u, sc_s, List.length_nil, List.length_cons, Nat.reduceAdd, Nat.reduceLeDiff, Nat.zero_le, le4_0, le4_1, le4_2, le4_3, rz0, rz1, rzt, eq_self, fo_f, fo_a, fo_j, co_f, co_a, co_j, ao_f, ao_a, ao_j, zo_f, zo_a, zo_j, jo_f, jo_a, jo_j, al_f, al_a, al_j, fg_a, fg_j, ag_f, ag_j, jg_f, jg_a, fk_f, fk_a, fk_j, fi_a, fi_j, tI_0, tI_n0, if_true, if_false, ne_eq, not_true_eq_false, not_false_eq_true, and_self, Bool.false_eq_true, e, oc64 h0, of64_0 h0, og64_0 h0, ok64_0 h0, of64_1 h0, og64_1 h0, of64_2 h0, og64_2 h0, of64_3 h0, og64_3 h0, of64_4 h0, og64_4 h0, of64_5 h0, og64_5 h0, ok64_5 h0, of64_6 h0, og64_6 h0, ok64_6 h0, of64_7 h0, og64_7 h0, of64_8 h0, og64_8 h0, of64_9 h0, og64_9 h0, of64_10 h0, og64_10 h0, of64_11 h0, og64_11 h0, of64_12 h0, og64_12 h0, of64_13 h0, og64_13 h0, ok64_13 h0, of64_14 h0, og64_14 h0, of64_15 h0, og64_15 h0, ok64_15 h0, of64_16 h0, og64_16 h0, of64_17 h0, og64_17 h0, of64_18 h0, og64_18 h0, of64_19 h0, og64_19 h0, of64_20 h0, og64_20 h0, of64_21 h0, og64_21 h0, ok64_21 h0, of64_22 h0, og64_22 h0, of64_23 h0, og64_23 h0, ok64_23 h0, of64_24 h0, og64_24 h0, ok64_24 h0, of64_25 h0, og64_25 h0, ok64_25 h0, of64_26 h0, og64_26 h0, ok64_26 h0, of64_27 h0, og64_27 h0, ok64_27 h0, of64_28 h0, og64_28 h0, of64_29 h0, og64_29 h0, of64_30 h0, og64_30 h0, of64_31 h0, og64_31 h0, of64_32 h0, og64_32 h0, of64_33 h0, og64_33 h0, of64_34 h0, og64_34 h0, of64_35 h0, og64_35 h0, ok64_35 h0, of64_36 h0, og64_36 h0, ok64_36 h0, oa67 h0, ol67 h0, oa84 h0, ol84 h0, b8 hj, c8 hj, hsj, hbk, h7, bN_f, c1', c2, es, e0, em, m100, m10, nI_add, b1000 (show 100 * m + 10 * (r - bt s k) + k < 1000 by omega), c1000 (show 100 * m + 10 * (r - bt s k) + k < 1000 by omega), hv, z10, c3, decide_true, hq, Bool.and_self, Bool.or_true, nI_1, it _ sc_i]
          | false =>
            rw [hq, bN_f] at hv
            simp only [z146_0, z146_1, z146_3, z146_4, z146_8, z146_10, z146_13, z146_14, z146_15, z146_18, z146_19, z146_20, z146_22, z146_23, z146_24, z146_25, z146_26, z146_28, z146_30, z146_33, z146_35, z146_37, z146_40, z146_42, z146_45, z146_46, z146_49, z146_51, z146_52, z146_53, z146_54, z146_55, z146_57, z146_59, z146_60, z146_61, z146_63, z146_64, z146_65, z146_68, z146_69, z146_72, z146_73, z146_75, z146_78, z146_81, z146_83, Option.bind_some, Option.toList_some, Option.toList_none, List.cons_append, List.nil_append, sc_i, sc_r, sc_l, sc_u, sc_s, List.length_nil, List.length_cons, Nat.reduceAdd, Nat.reduceLeDiff, Nat.zero_le, le4_0, le4_1, le4_2, le4_3, rz0, rz1, rzt, eq_self, fo_f, fo_a, fo_j, co_f, co_a, co_j, ao_f, ao_a, ao_j, zo_f, zo_a, zo_j, jo_f, jo_a, jo_j, al_f, al_a, al_j, fg_a, fg_j, ag_f, ag_j, jg_f, jg_a, fk_f, fk_a, fk_j, fi_a, fi_j, tI_0, tI_n0, if_true, if_false, ne_eq, not_true_eq_false, not_false_eq_true, and_self, Bool.false_eq_true, e, oc64 h0, of64_0 h0, og64_0 h0, ok64_0 h0, of64_1 h0, og64_1 h0, of64_2 h0, og64_2 h0, of64_3 h0, og64_3 h0, of64_4 h0, og64_4 h0, of64_5 h0, og64_5 h0, ok64_5 h0, of64_6 h0, og64_6 h0, ok64_6 h0, of64_7 h0, og64_7 h0, of64_8 h0, og64_8 h0, of64_9 h0, og64_9 h0, of64_10 h0, og64_10 h0, of64_11 h0, og64_11 h0, of64_12 h0, og64_12 h0, of64_13 h0, og64_13 h0, ok64_13 h0, of64_14 h0, og64_14 h0, of64_15 h0, og64_15 h0, ok64_15 h0, of64_16 h0, og64_16 h0, of64_17 h0, og64_17 h0, of64_18 h0, og64_18 h0, of64_19 h0, og64_19 h0, of64_20 h0, og64_20 h0, of64_21 h0, og64_21 h0, ok64_21 h0, of64_22 h0, og64_22 h0, of64_23 h0, og64_23 h0, ok64_23 h0, of64_24 h0, og64_24 h0, ok64_24 h0, of64_25 h0, og64_25 h0, ok64_25 h0, of64_26 h0, og64_26 h0, ok64_26 h0, of64_27 h0, og64_27 h0, ok64_27 h0, of64_28 h0, og64_28 h0, of64_29 h0, og64_29 h0, of64_30 h0, og64_30 h0, of64_31 h0, og64_31 h0, of64_32 h0, og64_32 h0, of64_33 h0, og64_33 h0, of64_34 h0, og64_34 h0, of64_35 h0, og64_35 h0, ok64_35 h0, of64_36 h0, og64_36 h0, ok64_36 h0, oa67 h0, ol67 h0, oa84 h0, ol84 h0, b8 hj, c8 hj, hsj, hbk, h7, bN_f, c1', c2, es, e0, em, m100, m10, nI_add, b1000 (show 100 * m + 10 * (r - bt s k) + k < 1000 by omega), c1000 (show 100 * m + 10 * (r - bt s k) + k < 1000 by omega), hv, c3, decide_true, hq, Bool.and_false, Bool.or_self, nI_1, iff _ sc_i]
        · have b1 : bt s k = 1 := by omega
          have r0 : r = 0 := by omega
          subst r0
          rw [b1] at hbk c3 ⊢
          have e0 : nI 0 - nI 1 < 0 := by decide
          simp only [z146_0, z146_1, z146_3, z146_4, z146_8, z146_10, z146_13, z146_14, z146_15, z146_18, z146_19, z146_20, z146_22, z146_23, z146_24, z146_25, z146_26, z146_28, z146_30, z146_33, z146_35, z146_37, z146_40, z146_42, z146_45, z146_46, z146_49, z146_51, z146_52, z146_53, z146_54, z146_55, z146_57, z146_59, z146_60, z146_61, z146_63, z146_64, z146_65, z146_68, z146_69, z146_72, z146_73, z146_75, z146_78, z146_81, z146_83, Option.bind_some, Option.toList_some, Option.toList_none, List.cons_append, List.nil_append, sc_i, sc_r, sc_l, sc_u, sc_s, List.length_nil, List.length_cons, Nat.reduceAdd, Nat.reduceLeDiff, Nat.zero_le, le4_0, le4_1, le4_2, le4_3, rz0, rz1, rzt, eq_self, fo_f, fo_a, fo_j, co_f, co_a, co_j, ao_f, ao_a, ao_j, zo_f, zo_a, zo_j, jo_f, jo_a, jo_j, al_f, al_a, al_j, fg_a, fg_j, ag_f, ag_j, jg_f, jg_a, fk_f, fk_a, fk_j, fi_a, fi_j, tI_0, tI_n0, if_true, if_false, ne_eq, not_true_eq_false, not_false_eq_true, and_self, Bool.false_eq_true, e, oc64 h0, of64_0 h0, og64_0 h0, ok64_0 h0, of64_1 h0, og64_1 h0, of64_2 h0, og64_2 h0, of64_3 h0, og64_3 h0, of64_4 h0, og64_4 h0, of64_5 h0, og64_5 h0, ok64_5 h0, of64_6 h0, og64_6 h0, ok64_6 h0, of64_7 h0, og64_7 h0, of64_8 h0, og64_8 h0, of64_9 h0, og64_9 h0, of64_10 h0, og64_10 h0, of64_11 h0, og64_11 h0, of64_12 h0, og64_12 h0, of64_13 h0, og64_13 h0, ok64_13 h0, of64_14 h0, og64_14 h0, of64_15 h0, og64_15 h0, ok64_15 h0, of64_16 h0, og64_16 h0, of64_17 h0, og64_17 h0, of64_18 h0, og64_18 h0, of64_19 h0, og64_19 h0, of64_20 h0, og64_20 h0, of64_21 h0, og64_21 h0, ok64_21 h0, of64_22 h0, og64_22 h0, of64_23 h0, og64_23 h0, ok64_23 h0, of64_24 h0, og64_24 h0, ok64_24 h0, of64_25 h0, og64_25 h0, ok64_25 h0, of64_26 h0, og64_26 h0, ok64_26 h0, of64_27 h0, og64_27 h0, ok64_27 h0, of64_28 h0, og64_28 h0, of64_29 h0, og64_29 h0, of64_30 h0, og64_30 h0, of64_31 h0, og64_31 h0, of64_32 h0, og64_32 h0, of64_33 h0, og64_33 h0, of64_34 h0, og64_34 h0, of64_35 h0, og64_35 h0, ok64_35 h0, of64_36 h0, og64_36 h0, ok64_36 h0, oa67 h0, ol67 h0, b8 hj, c8 hj, hsj, hbk, h7, bN_f, c1', c2, e0, c3, decide_false, Bool.false_and, Bool.and_false, Bool.or_self, nI_1, iff _ sc_i]
theorem x_cf {X : Scr} {w : AW} {s j m r d : Nat} (hs : s < 1024) (hj : j < 8) (hm : m < 9) (hr : r < 10) (hd : d < 10) (hsj : aget w 67 j = nI s) (cw : CWs w s (100 * (m + 1))) : Z X 146 0 [.ref 64, .int (nI j), .int (nI (m + 1)), .int (nI r), .int (nI d), uns, uns, uns] [] w = some (some (.int (bN (canN s (m + 1) r d))), w) := by
  have h1 := x_cfL (X := X) hs hj hm hr hd hsj cw 10 0 rfl false uns sc_u
  have z0 : nI 0 = 0 := rfl
  rw [z0, bN_f] at h1
  rw [canN]
  simp only [z146_0, z146_1, z146_3, z146_4, z146_8, z146_10, z146_13, z146_14, z146_15, z146_18, z146_19, z146_20, z146_22, z146_23, z146_24, z146_25, z146_26, z146_28, z146_30, z146_33, z146_35, z146_37, z146_40, z146_42, z146_45, z146_46, z146_49, z146_51, z146_52, z146_53, z146_54, z146_55, z146_57, z146_59, z146_60, z146_61, z146_63, z146_64, z146_65, z146_68, z146_69, z146_72, z146_73, z146_75, z146_78, z146_81, z146_83, Option.bind_some, Option.toList_some, Option.toList_none, List.cons_append, List.nil_append, sc_i, sc_r, sc_l, sc_u, sc_s, List.length_nil, List.length_cons, Nat.reduceAdd, Nat.reduceLeDiff, Nat.zero_le, le4_0, le4_1, le4_2, le4_3, rz0, rz1, rzt, eq_self, h1]
theorem x_fo1 {X : Scr} {s : Nat} {v1 v2 v3 v5 v6 v7 v8 v9 v10 : Value} : ∀ (n e : Nat), e + n = 1000 → ∀ w : AW, OK w → (∀ t, t < e → aget w 84 t = bN (decide (t < 10))) → ∃ w', Z X 145 3 [.ref 64, v1, v2, v3, .int (nI e), v5, v6, v7, v8, v9, v10] [] w = Z X 145 36 [.ref 64, v1, v2, v3, .int (nI 1000), v5, v6, v7, v8, v9, v10] [] w' ∧ OK w' ∧ (∀ t, t < 1000 → aget w' 84 t = bN (decide (t < 10))) ∧ same w w' := by
  intro n
  induction n with
  | zero =>
    intro e he w h0 hz
    have he : e = 1000 := he
    subst he
    have q : nI 1000 ≥ 1000 := by decide
    refine ⟨w, ?_, h0, hz, same_rf⟩
    rw [z145_3]
    simp only [z145_5, z145_8, Option.bind_some, Option.toList_some, Option.toList_none, List.cons_append, List.nil_append, sc_i, sc_r, sc_l, sc_u, sc_s, List.length_nil, List.length_cons, Nat.reduceAdd, Nat.reduceLeDiff, Nat.zero_le, le4_0, le4_1, le4_2, le4_3, rz0, rz1, rzt, eq_self, tI_0, tI_n0, if_true, if_false, ne_eq, not_true_eq_false, not_false_eq_true, and_self, Bool.false_eq_true, q]
  | succ n ih =>
    intro e he w h0 hz
    have he' : e < 1000 := by omega
    have q : ¬ nI e ≥ 1000 := i32_nle.mpr (by rw [show (1000 : Int32) = nI 1000 from rfl]; exact nI_lt (by omega) (by decide))
    obtain ⟨w', r1, r2, r3, r4⟩ := ih (e + 1) (by omega) (aset w 84 (upd (aget w 84) e (bN (decide (e < 10))))) (ok_a h0) (fun t ht => by
      rw [ag_z (oa84 h0), updI]
      by_cases z : t = e
      · rw [if_pos z, z]
      · rw [if_neg z]; exact hz t (by omega))
    refine ⟨w', ?_, r2, r3, same_tr (same_a (by decide)) r4⟩
    rw [← r1, z145_3]
    by_cases c : e < 10
    · have c' : ¬ nI e ≥ 10 := i32_nle.mpr (by rw [show (10 : Int32) = nI 10 from rfl]; exact nI_lt (by omega) (by decide))
      have i1 : (1 : Int32) &&& 1 = 1 := rfl
      simp only [z145_5, z145_8, z145_11, z145_12, z145_15, z145_17, z145_19, z145_21, z145_24, z145_25, z145_28, z145_29, z145_30, z145_33, Option.bind_some, Option.toList_some, Option.toList_none, List.cons_append, List.nil_append, sc_i, sc_r, sc_l, sc_u, sc_s, List.length_nil, List.length_cons, Nat.reduceAdd, Nat.reduceLeDiff, Nat.zero_le, le4_0, le4_1, le4_2, le4_3, rz0, rz1, rzt, eq_self, fo_f, fo_a, fo_j, co_f, co_a, co_j, ao_f, ao_a, ao_j, zo_f, zo_a, zo_j, jo_f, jo_a, jo_j, al_f, al_a, al_j, fg_a, fg_j, ag_f, ag_j, jg_f, jg_a, fk_f, fk_a, fk_j, fi_a, fi_j, tI_0, tI_n0, if_true, if_false, ne_eq, not_true_eq_false, not_false_eq_true, and_self, Bool.false_eq_true, q, c, c', oc64 h0, of64_0 h0, og64_0 h0, ok64_0 h0, of64_1 h0, og64_1 h0, of64_2 h0, og64_2 h0, of64_3 h0, og64_3 h0, of64_4 h0, og64_4 h0, of64_5 h0, og64_5 h0, ok64_5 h0, of64_6 h0, og64_6 h0, ok64_6 h0, of64_7 h0, og64_7 h0, of64_8 h0, og64_8 h0, of64_9 h0, og64_9 h0, of64_10 h0, og64_10 h0, of64_11 h0, og64_11 h0, of64_12 h0, og64_12 h0, of64_13 h0, og64_13 h0, ok64_13 h0, of64_14 h0, og64_14 h0, of64_15 h0, og64_15 h0, ok64_15 h0, of64_16 h0, og64_16 h0, of64_17 h0, og64_17 h0, of64_18 h0, og64_18 h0, of64_19 h0, og64_19 h0, of64_20 h0, og64_20 h0, of64_21 h0, og64_21 h0, ok64_21 h0, of64_22 h0, og64_22 h0, of64_23 h0, og64_23 h0, ok64_23 h0, of64_24 h0, og64_24 h0, ok64_24 h0, of64_25 h0, og64_25 h0, ok64_25 h0, of64_26 h0, og64_26 h0, ok64_26 h0, of64_27 h0, og64_27 h0, ok64_27 h0, of64_28 h0, og64_28 h0, of64_29 h0, og64_29 h0, of64_30 h0, og64_30 h0, of64_31 h0, og64_31 h0, of64_32 h0, og64_32 h0, of64_33 h0, og64_33 h0, of64_34 h0, og64_34 h0, of64_35 h0, og64_35 h0, ok64_35 h0, of64_36 h0, og64_36 h0, ok64_36 h0, oa84 h0, ol84 h0, b1000 he', c1000 he', decide_true, bN_t, i1, nI_1]
    · have c' : nI e ≥ 10 := i32_nlt.mp (fun z => c (by
        rw [show (10 : Int32) = nI 10 from rfl] at z
        exact (nI_ltI (by omega) (by decide)).mp z))
      have i1 : (0 : Int32) &&& 1 = 0 := rfl
      simp only [z145_5, z145_8, z145_11, z145_12, z145_15, z145_17, z145_19, z145_21, z145_24, z145_25, z145_28, z145_29, z145_30, z145_33, Option.bind_some, Option.toList_some, Option.toList_none, List.cons_append, List.nil_append, sc_i, sc_r, sc_l, sc_u, sc_s, List.length_nil, List.length_cons, Nat.reduceAdd, Nat.reduceLeDiff, Nat.zero_le, le4_0, le4_1, le4_2, le4_3, rz0, rz1, rzt, eq_self, fo_f, fo_a, fo_j, co_f, co_a, co_j, ao_f, ao_a, ao_j, zo_f, zo_a, zo_j, jo_f, jo_a, jo_j, al_f, al_a, al_j, fg_a, fg_j, ag_f, ag_j, jg_f, jg_a, fk_f, fk_a, fk_j, fi_a, fi_j, tI_0, tI_n0, if_true, if_false, ne_eq, not_true_eq_false, not_false_eq_true, and_self, Bool.false_eq_true, q, c, c', oc64 h0, of64_0 h0, og64_0 h0, ok64_0 h0, of64_1 h0, og64_1 h0, of64_2 h0, og64_2 h0, of64_3 h0, og64_3 h0, of64_4 h0, og64_4 h0, of64_5 h0, og64_5 h0, ok64_5 h0, of64_6 h0, og64_6 h0, ok64_6 h0, of64_7 h0, og64_7 h0, of64_8 h0, og64_8 h0, of64_9 h0, og64_9 h0, of64_10 h0, og64_10 h0, of64_11 h0, og64_11 h0, of64_12 h0, og64_12 h0, of64_13 h0, og64_13 h0, ok64_13 h0, of64_14 h0, og64_14 h0, of64_15 h0, og64_15 h0, ok64_15 h0, of64_16 h0, og64_16 h0, of64_17 h0, og64_17 h0, of64_18 h0, og64_18 h0, of64_19 h0, og64_19 h0, of64_20 h0, og64_20 h0, of64_21 h0, og64_21 h0, ok64_21 h0, of64_22 h0, og64_22 h0, of64_23 h0, og64_23 h0, ok64_23 h0, of64_24 h0, og64_24 h0, ok64_24 h0, of64_25 h0, og64_25 h0, ok64_25 h0, of64_26 h0, og64_26 h0, ok64_26 h0, of64_27 h0, og64_27 h0, ok64_27 h0, of64_28 h0, og64_28 h0, of64_29 h0, og64_29 h0, of64_30 h0, og64_30 h0, of64_31 h0, og64_31 h0, of64_32 h0, og64_32 h0, of64_33 h0, og64_33 h0, of64_34 h0, og64_34 h0, of64_35 h0, og64_35 h0, ok64_35 h0, of64_36 h0, og64_36 h0, ok64_36 h0, oa84 h0, ol84 h0, b1000 he', c1000 he', decide_false, bN_f, i1, nI_1]
theorem x_fo2 {X : Scr} {s j : Nat} {v2 v3 v5 v6 v7 v8 v9 v10 : Value} (hs : s < 1024) (hj : j < 8) : ∀ (n e : Nat), e + n = 1000 → 100 ≤ e → ∀ w : AW, CWs w s e → aget w 67 j = nI s → ∃ w', Z X 145 40 [.ref 64, .int (nI j), v2, v3, .int (nI e), v5, v6, v7, v8, v9, v10] [] w = Z X 145 84 [.ref 64, .int (nI j), v2, v3, .int (nI 1000), v5, v6, v7, v8, v9, v10] [] w' ∧ CWs w' s 1000 ∧ aget w' 67 j = nI s ∧ same w w' := by
  intro n
  induction n with
  | zero =>
    intro e he _ w cw hsj
    have he : e = 1000 := he
    subst he
    have q : nI 1000 ≥ 1000 := by decide
    refine ⟨w, ?_, cw, hsj, same_rf⟩
    rw [z145_40]
    simp only [z145_42, z145_45, Option.bind_some, Option.toList_some, Option.toList_none, List.cons_append, List.nil_append, sc_i, sc_r, sc_l, sc_u, sc_s, List.length_nil, List.length_cons, Nat.reduceAdd, Nat.reduceLeDiff, Nat.zero_le, le4_0, le4_1, le4_2, le4_3, rz0, rz1, rzt, eq_self, tI_0, tI_n0, if_true, if_false, ne_eq, not_true_eq_false, not_false_eq_true, and_self, Bool.false_eq_true, q]
  | succ n ih =>
    intro e he he1 w cw hsj
    obtain ⟨h0, hc⟩ := id cw
    have he' : e < 1000 := by omega
    have q : ¬ nI e ≥ 1000 := i32_nle.mpr (by rw [show (1000 : Int32) = nI 1000 from rfl]; exact nI_lt (by omega) (by decide))
    obtain ⟨m, hm⟩ : ∃ m, e / 100 = m + 1 := ⟨e / 100 - 1, by omega⟩
    have hcf := x_cf (X := X) (w := w) (m := m) (r := e / 10 % 10) (d := e % 10) hs hj (by omega) (by omega) (by omega) hsj ⟨h0, fun t ht => hc t (by omega)⟩
    have hcv : canN s (m + 1) (e / 10 % 10) (e % 10) = cvS s e := by
      unfold cvS
      rw [hm]
    rw [hcv] at hcf
    have d1 : nI e / 100 = nI (m + 1) := by rw [← hm]; exact pk_div (d := 100) (by omega) (by decide) (by decide)
    have d2 : nI e / 10 = nI (e / 10) := pk_div (d := 10) (by omega) (by decide) (by decide)
    have d3 : nI (e / 10) - nI (e / 10) / 10 * 10 = nI (e / 10 % 10) := pk_rem (d := 10) (by omega) (by decide) (by decide)
    have d4 : nI e - nI (e / 10) * 10 = nI (e % 10) := by rw [← d2]; exact pk_rem (d := 10) (by omega) (by decide) (by decide)
    have n10 : ¬ (10 : Int32) = 0 := by decide
    have n100 : ¬ (100 : Int32) = 0 := by decide
    obtain ⟨w', r1, r2, r3, r4⟩ := ih (e + 1) (by omega) (by omega) (aset w 84 (upd (aget w 84) e (bN (cvS s e)))) ⟨ok_a h0, fun t ht => by
      rw [ag_z (oa84 h0), updI]
      by_cases z : t = e
      · rw [if_pos z, z]
      · rw [if_neg z]; exact hc t (by omega)⟩ (by rw [ag_n (by decide)]; exact hsj)
    refine ⟨w', ?_, r2, r3, same_tr (same_a (by decide)) r4⟩
    rw [← r1, z145_40]
    simp only [z145_42, z145_45, z145_48, z145_49, z145_52, z145_54, z145_55, z145_56, z145_58, z145_60, z145_61, z145_63, z145_65, z145_66, z145_68, z145_69, z145_71, z145_73, z145_74, z145_77, z145_78, z145_81, Option.bind_some, Option.toList_some, Option.toList_none, List.cons_append, List.nil_append, sc_i, sc_r, sc_l, sc_u, sc_s, List.length_nil, List.length_cons, Nat.reduceAdd, Nat.reduceLeDiff, Nat.zero_le, le4_0, le4_1, le4_2, le4_3, rz0, rz1, rzt, eq_self, fo_f, fo_a, fo_j, co_f, co_a, co_j, ao_f, ao_a, ao_j, zo_f, zo_a, zo_j, jo_f, jo_a, jo_j, al_f, al_a, al_j, fg_a, fg_j, ag_f, ag_j, jg_f, jg_a, fk_f, fk_a, fk_j, fi_a, fi_j, tI_0, tI_n0, if_true, if_false, ne_eq, not_true_eq_false, not_false_eq_true, and_self, Bool.false_eq_true, q, oc64 h0, of64_0 h0, og64_0 h0, ok64_0 h0, of64_1 h0, og64_1 h0, of64_2 h0, og64_2 h0, of64_3 h0, og64_3 h0, of64_4 h0, og64_4 h0, of64_5 h0, og64_5 h0, ok64_5 h0, of64_6 h0, og64_6 h0, ok64_6 h0, of64_7 h0, og64_7 h0, of64_8 h0, og64_8 h0, of64_9 h0, og64_9 h0, of64_10 h0, og64_10 h0, of64_11 h0, og64_11 h0, of64_12 h0, og64_12 h0, of64_13 h0, og64_13 h0, ok64_13 h0, of64_14 h0, og64_14 h0, of64_15 h0, og64_15 h0, ok64_15 h0, of64_16 h0, og64_16 h0, of64_17 h0, og64_17 h0, of64_18 h0, og64_18 h0, of64_19 h0, og64_19 h0, of64_20 h0, og64_20 h0, of64_21 h0, og64_21 h0, ok64_21 h0, of64_22 h0, og64_22 h0, of64_23 h0, og64_23 h0, ok64_23 h0, of64_24 h0, og64_24 h0, ok64_24 h0, of64_25 h0, og64_25 h0, ok64_25 h0, of64_26 h0, og64_26 h0, ok64_26 h0, of64_27 h0, og64_27 h0, ok64_27 h0, of64_28 h0, og64_28 h0, of64_29 h0, og64_29 h0, of64_30 h0, og64_30 h0, of64_31 h0, og64_31 h0, of64_32 h0, og64_32 h0, of64_33 h0, og64_33 h0, of64_34 h0, og64_34 h0, of64_35 h0, og64_35 h0, ok64_35 h0, of64_36 h0, og64_36 h0, ok64_36 h0, oa84 h0, ol84 h0, b1000 he', c1000 he', d1, d2, d3, d4, n10, n100, hcf, bN_and, nI_1]
theorem x_fo3 {X : Scr} {w : AW} {s j c due : Nat} {last : Int32} {v2 v3 v4 : Value} (hs : s < 1024) (hj : j < 8) (hc : c < 10) (hd : due < 10) (cw : CWs w s 1000) (hsj : aget w 67 j = nI s) : ∀ (n : Nat), n ≤ 10 → ∀ (a : Int32) (v10 : Value), isSec v10 = false → ∃ v', isSec v' = false ∧ Z X 145 110 [.ref 64, .int (nI j), v2, v3, v4, .int last, .int (nI due), .int (nI (c + 1)), .int a, .int (nI n + -1), v10] [] w = Z X 145 182 [.ref 64, .int (nI j), v2, v3, v4, .int last, .int (nI due), .int (nI (c + 1)), .int (dnP (lsP s c last due) n a), .int (nI 0 + -1), v'] [] w := by
  obtain ⟨h0, hcv⟩ := cw
  intro n
  induction n with
  | zero =>
    intro hn a v10 h10
    have e : nI 0 + -1 < 0 := by decide
    refine ⟨v10, h10, ?_⟩
    rw [z145_110]
    simp only [z145_112, Option.bind_some, Option.toList_some, Option.toList_none, List.cons_append, List.nil_append, sc_i, sc_r, sc_l, sc_u, sc_s, List.length_nil, List.length_cons, Nat.reduceAdd, Nat.reduceLeDiff, Nat.zero_le, le4_0, le4_1, le4_2, le4_3, rz0, rz1, rzt, eq_self, tI_0, tI_n0, if_true, if_false, ne_eq, not_true_eq_false, not_false_eq_true, and_self, Bool.false_eq_true, e, dnP]
  | succ n ih =>
    intro hn a v10 h10
    have hn10 : n < 10 := by omega
    have e : ¬ nI n < 0 := nI_pos (by omega)
    have hb := bt_le (s := s) (d := n)
    have hbk := bt_k hs hn10
    rw [nI_m1, dnP]
    by_cases c1 : nI n = last
    · subst c1
      have hP : lsP s c (nI n) due n = false := by unfold lsP; simp
      obtain ⟨v', i1, i2⟩ := ih (by omega) a (.int (nI due - nI (bt s n))) sc_i
      refine ⟨v', i1, ?_⟩
      rw [hP, if_neg Bool.false_ne_true, ← i2, z145_110]
      simp only [z145_112, z145_115, z145_117, z145_118, z145_121, z145_122, z145_123, z145_125, z145_126, z145_127, z145_128, z145_129, z145_131, z145_133, z145_135, z145_138, z145_140, z145_143, z145_144, z145_147, z145_149, z145_151, z145_152, z145_153, z145_154, z145_156, z145_158, z145_159, z145_160, z145_162, z145_163, z145_164, z145_167, z145_169, z145_172, z145_174, z145_176, z145_179, Option.bind_some, Option.toList_some, Option.toList_none, List.cons_append, List.nil_append, sc_i, sc_r, sc_l, sc_u, sc_s, List.length_nil, List.length_cons, Nat.reduceAdd, Nat.reduceLeDiff, Nat.zero_le, le4_0, le4_1, le4_2, le4_3, rz0, rz1, rzt, eq_self, fo_f, fo_a, fo_j, co_f, co_a, co_j, ao_f, ao_a, ao_j, zo_f, zo_a, zo_j, jo_f, jo_a, jo_j, al_f, al_a, al_j, fg_a, fg_j, ag_f, ag_j, jg_f, jg_a, fk_f, fk_a, fk_j, fi_a, fi_j, tI_0, tI_n0, if_true, if_false, ne_eq, not_true_eq_false, not_false_eq_true, and_self, Bool.false_eq_true, e, oc64 h0, of64_0 h0, og64_0 h0, ok64_0 h0, of64_1 h0, og64_1 h0, of64_2 h0, og64_2 h0, of64_3 h0, og64_3 h0, of64_4 h0, og64_4 h0, of64_5 h0, og64_5 h0, ok64_5 h0, of64_6 h0, og64_6 h0, ok64_6 h0, of64_7 h0, og64_7 h0, of64_8 h0, og64_8 h0, of64_9 h0, og64_9 h0, of64_10 h0, og64_10 h0, of64_11 h0, og64_11 h0, of64_12 h0, og64_12 h0, of64_13 h0, og64_13 h0, ok64_13 h0, of64_14 h0, og64_14 h0, of64_15 h0, og64_15 h0, ok64_15 h0, of64_16 h0, og64_16 h0, of64_17 h0, og64_17 h0, of64_18 h0, og64_18 h0, of64_19 h0, og64_19 h0, of64_20 h0, og64_20 h0, of64_21 h0, og64_21 h0, ok64_21 h0, of64_22 h0, og64_22 h0, of64_23 h0, og64_23 h0, ok64_23 h0, of64_24 h0, og64_24 h0, ok64_24 h0, of64_25 h0, og64_25 h0, ok64_25 h0, of64_26 h0, og64_26 h0, ok64_26 h0, of64_27 h0, og64_27 h0, ok64_27 h0, of64_28 h0, og64_28 h0, of64_29 h0, og64_29 h0, of64_30 h0, og64_30 h0, of64_31 h0, og64_31 h0, of64_32 h0, og64_32 h0, of64_33 h0, og64_33 h0, of64_34 h0, og64_34 h0, of64_35 h0, og64_35 h0, ok64_35 h0, of64_36 h0, og64_36 h0, ok64_36 h0, oa67 h0, ol67 h0, oa84 h0, ol84 h0, b8 hj, c8 hj, hsj, hbk, h10]
    · by_cases c3 : bt s n ≤ due
      · have es : nI due - nI (bt s n) = nI (due - bt s n) := pk_sub c3
        have e0 : ¬ nI (due - bt s n) < 0 := nI_pos (by omega)
        have em : nI (c + 1) - 1 = nI c := pk_sub (b := 1) (by omega)
        have hv := hcv (100 * c + 10 * (due - bt s n) + n) (by omega)
        rw [cvS_at (by omega) hn10] at hv
        cases hq : canN s c (due - bt s n) n with
        | true =>
          have hP : lsP s c last due n = true := by unfold lsP; simp [c1, c3, hq]
          rw [hq, bN_t] at hv
          have z10 : ¬ (1 : Int32) = 0 := by decide
          obtain ⟨v', i1, i2⟩ := ih (by omega) (nI n) (.int (nI (due - bt s n))) sc_i
          refine ⟨v', i1, ?_⟩
          rw [hP, if_pos rfl, ← i2, z145_110]
          simp only [z145_112, z145_115, z145_117, z145_118, z145_121, z145_122, z145_123, z145_125, z145_126, z145_127, z145_128, z145_129, z145_131, z145_133, z145_135, z145_138, z145_140, z145_143, z145_144, z145_147, z145_149, z145_151, z145_152, z145_153, z145_154, z145_156, z145_158, z145_159, z145_160, z145_162, z145_163, z145_164, z145_167, z145_169, z145_172, z145_174, z145_176, z145_179, Option.bind_some, Option.toList_some, Option.toList_none, List.cons_append, List.nil_append, sc_i, sc_r, sc_l, sc_u, sc_s, List.length_nil, List.length_cons, Nat.reduceAdd, Nat.reduceLeDiff, Nat.zero_le, le4_0, le4_1, le4_2, le4_3, rz0, rz1, rzt, eq_self, fo_f, fo_a, fo_j, co_f, co_a, co_j, ao_f, ao_a, ao_j, zo_f, zo_a, zo_j, jo_f, jo_a, jo_j, al_f, al_a, al_j, fg_a, fg_j, ag_f, ag_j, jg_f, jg_a, fk_f, fk_a, fk_j, fi_a, fi_j, tI_0, tI_n0, if_true, if_false, ne_eq, not_true_eq_false, not_false_eq_true, and_self, Bool.false_eq_true, e, oc64 h0, of64_0 h0, og64_0 h0, ok64_0 h0, of64_1 h0, og64_1 h0, of64_2 h0, og64_2 h0, of64_3 h0, og64_3 h0, of64_4 h0, og64_4 h0, of64_5 h0, og64_5 h0, ok64_5 h0, of64_6 h0, og64_6 h0, ok64_6 h0, of64_7 h0, og64_7 h0, of64_8 h0, og64_8 h0, of64_9 h0, og64_9 h0, of64_10 h0, og64_10 h0, of64_11 h0, og64_11 h0, of64_12 h0, og64_12 h0, of64_13 h0, og64_13 h0, ok64_13 h0, of64_14 h0, og64_14 h0, of64_15 h0, og64_15 h0, ok64_15 h0, of64_16 h0, og64_16 h0, of64_17 h0, og64_17 h0, of64_18 h0, og64_18 h0, of64_19 h0, og64_19 h0, of64_20 h0, og64_20 h0, of64_21 h0, og64_21 h0, ok64_21 h0, of64_22 h0, og64_22 h0, of64_23 h0, og64_23 h0, ok64_23 h0, of64_24 h0, og64_24 h0, ok64_24 h0, of64_25 h0, og64_25 h0, ok64_25 h0, of64_26 h0, og64_26 h0, ok64_26 h0, of64_27 h0, og64_27 h0, ok64_27 h0, of64_28 h0, og64_28 h0, of64_29 h0, og64_29 h0, of64_30 h0, og64_30 h0, of64_31 h0, og64_31 h0, of64_32 h0, og64_32 h0, of64_33 h0, og64_33 h0, of64_34 h0, og64_34 h0, of64_35 h0, og64_35 h0, ok64_35 h0, of64_36 h0, og64_36 h0, ok64_36 h0, oa67 h0, ol67 h0, oa84 h0, ol84 h0, b8 hj, c8 hj, hsj, hbk, h10, c1, es, e0, em, m100, m10, nI_add, b1000 (show 100 * c + 10 * (due - bt s n) + n < 1000 by omega), c1000 (show 100 * c + 10 * (due - bt s n) + n < 1000 by omega), hv, z10]
        | false =>
          have hP : lsP s c last due n = false := by unfold lsP; simp [hq]
          rw [hq, bN_f] at hv
          obtain ⟨v', i1, i2⟩ := ih (by omega) a (.int (nI (due - bt s n))) sc_i
          refine ⟨v', i1, ?_⟩
          rw [hP, if_neg Bool.false_ne_true, ← i2, z145_110]
          simp only [z145_112, z145_115, z145_117, z145_118, z145_121, z145_122, z145_123, z145_125, z145_126, z145_127, z145_128, z145_129, z145_131, z145_133, z145_135, z145_138, z145_140, z145_143, z145_144, z145_147, z145_149, z145_151, z145_152, z145_153, z145_154, z145_156, z145_158, z145_159, z145_160, z145_162, z145_163, z145_164, z145_167, z145_169, z145_172, z145_174, z145_176, z145_179, Option.bind_some, Option.toList_some, Option.toList_none, List.cons_append, List.nil_append, sc_i, sc_r, sc_l, sc_u, sc_s, List.length_nil, List.length_cons, Nat.reduceAdd, Nat.reduceLeDiff, Nat.zero_le, le4_0, le4_1, le4_2, le4_3, rz0, rz1, rzt, eq_self, fo_f, fo_a, fo_j, co_f, co_a, co_j, ao_f, ao_a, ao_j, zo_f, zo_a, zo_j, jo_f, jo_a, jo_j, al_f, al_a, al_j, fg_a, fg_j, ag_f, ag_j, jg_f, jg_a, fk_f, fk_a, fk_j, fi_a, fi_j, tI_0, tI_n0, if_true, if_false, ne_eq, not_true_eq_false, not_false_eq_true, and_self, Bool.false_eq_true, e, oc64 h0, of64_0 h0, og64_0 h0, ok64_0 h0, of64_1 h0, og64_1 h0, of64_2 h0, og64_2 h0, of64_3 h0, og64_3 h0, of64_4 h0, og64_4 h0, of64_5 h0, og64_5 h0, ok64_5 h0, of64_6 h0, og64_6 h0, ok64_6 h0, of64_7 h0, og64_7 h0, of64_8 h0, og64_8 h0, of64_9 h0, og64_9 h0, of64_10 h0, og64_10 h0, of64_11 h0, og64_11 h0, of64_12 h0, og64_12 h0, of64_13 h0, og64_13 h0, ok64_13 h0, of64_14 h0, og64_14 h0, of64_15 h0, og64_15 h0, ok64_15 h0, of64_16 h0, og64_16 h0, of64_17 h0, og64_17 h0, of64_18 h0, og64_18 h0, of64_19 h0, og64_19 h0, of64_20 h0, og64_20 h0, of64_21 h0, og64_21 h0, ok64_21 h0, of64_22 h0, og64_22 h0, of64_23 h0, og64_23 h0, ok64_23 h0, of64_24 h0, og64_24 h0, ok64_24 h0, of64_25 h0, og64_25 h0, ok64_25 h0, of64_26 h0, og64_26 h0, ok64_26 h0, of64_27 h0, og64_27 h0, ok64_27 h0, of64_28 h0, og64_28 h0, of64_29 h0, og64_29 h0, of64_30 h0, og64_30 h0, of64_31 h0, og64_31 h0, of64_32 h0, og64_32 h0, of64_33 h0, og64_33 h0, of64_34 h0, og64_34 h0, of64_35 h0, og64_35 h0, ok64_35 h0, of64_36 h0, og64_36 h0, ok64_36 h0, oa67 h0, ol67 h0, oa84 h0, ol84 h0, b8 hj, c8 hj, hsj, hbk, h10, c1, es, e0, em, m100, m10, nI_add, b1000 (show 100 * c + 10 * (due - bt s n) + n < 1000 by omega), c1000 (show 100 * c + 10 * (due - bt s n) + n < 1000 by omega), hv]
      · have b1 : bt s n = 1 := by omega
        have d0 : due = 0 := by omega
        subst d0
        have hP : lsP s c last 0 n = false := by unfold lsP; simp [b1]
        rw [b1] at hbk
        have e0 : nI 0 - nI 1 < 0 := by decide
        obtain ⟨v', i1, i2⟩ := ih (by omega) a (.int (nI 0 - nI 1)) sc_i
        refine ⟨v', i1, ?_⟩
        rw [hP, if_neg Bool.false_ne_true, ← i2, z145_110]
        simp only [z145_112, z145_115, z145_117, z145_118, z145_121, z145_122, z145_123, z145_125, z145_126, z145_127, z145_128, z145_129, z145_131, z145_133, z145_135, z145_138, z145_140, z145_143, z145_144, z145_147, z145_149, z145_151, z145_152, z145_153, z145_154, z145_156, z145_158, z145_159, z145_160, z145_162, z145_163, z145_164, z145_167, z145_169, z145_172, z145_174, z145_176, z145_179, Option.bind_some, Option.toList_some, Option.toList_none, List.cons_append, List.nil_append, sc_i, sc_r, sc_l, sc_u, sc_s, List.length_nil, List.length_cons, Nat.reduceAdd, Nat.reduceLeDiff, Nat.zero_le, le4_0, le4_1, le4_2, le4_3, rz0, rz1, rzt, eq_self, fo_f, fo_a, fo_j, co_f, co_a, co_j, ao_f, ao_a, ao_j, zo_f, zo_a, zo_j, jo_f, jo_a, jo_j, al_f, al_a, al_j, fg_a, fg_j, ag_f, ag_j, jg_f, jg_a, fk_f, fk_a, fk_j, fi_a, fi_j, tI_0, tI_n0, if_true, if_false, ne_eq, not_true_eq_false, not_false_eq_true, and_self, Bool.false_eq_true, e, oc64 h0, of64_0 h0, og64_0 h0, ok64_0 h0, of64_1 h0, og64_1 h0, of64_2 h0, og64_2 h0, of64_3 h0, og64_3 h0, of64_4 h0, og64_4 h0, of64_5 h0, og64_5 h0, ok64_5 h0, of64_6 h0, og64_6 h0, ok64_6 h0, of64_7 h0, og64_7 h0, of64_8 h0, og64_8 h0, of64_9 h0, og64_9 h0, of64_10 h0, og64_10 h0, of64_11 h0, og64_11 h0, of64_12 h0, og64_12 h0, of64_13 h0, og64_13 h0, ok64_13 h0, of64_14 h0, og64_14 h0, of64_15 h0, og64_15 h0, ok64_15 h0, of64_16 h0, og64_16 h0, of64_17 h0, og64_17 h0, of64_18 h0, og64_18 h0, of64_19 h0, og64_19 h0, of64_20 h0, og64_20 h0, of64_21 h0, og64_21 h0, ok64_21 h0, of64_22 h0, og64_22 h0, of64_23 h0, og64_23 h0, ok64_23 h0, of64_24 h0, og64_24 h0, ok64_24 h0, of64_25 h0, og64_25 h0, ok64_25 h0, of64_26 h0, og64_26 h0, ok64_26 h0, of64_27 h0, og64_27 h0, ok64_27 h0, of64_28 h0, og64_28 h0, of64_29 h0, og64_29 h0, of64_30 h0, og64_30 h0, of64_31 h0, og64_31 h0, of64_32 h0, og64_32 h0, of64_33 h0, og64_33 h0, of64_34 h0, og64_34 h0, of64_35 h0, og64_35 h0, ok64_35 h0, of64_36 h0, og64_36 h0, ok64_36 h0, oa67 h0, ol67 h0, oa84 h0, ol84 h0, b8 hj, c8 hj, hsj, hbk, h10, c1, e0]
theorem x_fo4 {X : Scr} {w : AW} {s j : Nat} {v2 v3 : Value} (hs : s < 1024) (hj : j < 8) (cw : CWs w s 1000) (hsj : aget w 67 j = nI s) : ∀ (c : Nat), c < 10 → ∀ (dg last : Int32) (due : Nat) (v8 v9 v10 : Value), isSec v8 = false → isSec v9 = false → isSec v10 = false → due < 10 → Z X 145 97 [.ref 64, .int (nI j), v2, v3, .int dg, .int last, .int (nI due), .int (nI c), v8, v9, v10] [] w = some (some (.int (lsN s c dg last due)), w) := by
  have h0 := cw.1
  intro c
  induction c with
  | zero =>
    intro hc dg last due v8 v9 v10 h8 h9 h10 hd
    have e : nI 0 ≤ 0 := by decide
    rw [z145_97]
    simp only [z145_99, z145_226, z145_228, Option.bind_some, Option.toList_some, Option.toList_none, List.cons_append, List.nil_append, sc_i, sc_r, sc_l, sc_u, sc_s, List.length_nil, List.length_cons, Nat.reduceAdd, Nat.reduceLeDiff, Nat.zero_le, le4_0, le4_1, le4_2, le4_3, rz0, rz1, rzt, eq_self, tI_0, tI_n0, if_true, if_false, ne_eq, not_true_eq_false, not_false_eq_true, and_self, Bool.false_eq_true, e, lsN]
  | succ c ih =>
    intro hc dg last due v8 v9 v10 h8 h9 h10 hd
    have e : ¬ nI (c + 1) ≤ 0 := by
      rw [show (0 : Int32) = nI 0 from rfl]
      exact i32_nle.mpr (nI_lt (by omega) (by omega))
    obtain ⟨v', i1, i2⟩ := x_fo3 (X := X) (last := last) (v2 := v2) (v3 := v3) (v4 := .int dg) hs hj (show c < 10 by omega) hd cw hsj 10 (Nat.le_refl 10) (-6) v10 h10
    have hdn : dnP (lsP s c last due) 10 (-6) = upP (lsP s c last due) 10 0 := dn_up 10 0
    have z9 : nI 10 + -1 = 9 := rfl
    have zm : nI 0 + -1 = -1 := rfl
    rw [hdn, z9, zm] at i2
    rw [z145_97, lsN]
    rcases upP_r (P := lsP s c last due) 10 0 with q | ⟨d, h1, h2, h3, h4⟩
    · have e6 : ¬ (-6 : Int32) ≥ 0 := by decide
      rw [q] at i2
      rw [if_pos q]
      simp only [z145_99, z145_102, z145_104, z145_106, z145_108, z145_182, z145_184, z145_187, z145_189, Option.bind_some, Option.toList_some, Option.toList_none, List.cons_append, List.nil_append, sc_i, sc_r, sc_l, sc_u, sc_s, List.length_nil, List.length_cons, Nat.reduceAdd, Nat.reduceLeDiff, Nat.zero_le, le4_0, le4_1, le4_2, le4_3, rz0, rz1, rzt, eq_self, tI_0, tI_n0, if_true, if_false, ne_eq, not_true_eq_false, not_false_eq_true, and_self, Bool.false_eq_true, e, h8, h9, i2, e6]
    · have hd10 : d < 10 := by omega
      have n6 := nI_n6 (show d < 1000 by omega)
      have e6 : nI d ≥ 0 := nI_pos' (by omega)
      rw [h3] at i2
      rw [h3, if_neg n6, c10 hd10]
      unfold lsP at h4
      rw [Bool.and_eq_true, Bool.and_eq_true, decide_eq_true_iff] at h4
      have es : nI due - nI (bt s d) = nI (due - bt s d) := pk_sub h4.2.1
      have em : nI (c + 1) + -1 = nI c := nI_m1
      have j1 := ih (by omega) (10 * dg + nI d) (nI d) (due - bt s d) (.int (nI d)) (.int (-1)) v' sc_i sc_i i1 (by omega)
      simp only [z145_99, z145_102, z145_104, z145_106, z145_108, z145_182, z145_184, z145_190, z145_192, z145_194, z145_195, z145_197, z145_198, z145_200, z145_202, z145_204, z145_206, z145_207, z145_210, z145_211, z145_212, z145_214, z145_215, z145_216, z145_217, z145_218, z145_220, z145_223, Option.bind_some, Option.toList_some, Option.toList_none, List.cons_append, List.nil_append, sc_i, sc_r, sc_l, sc_u, sc_s, List.length_nil, List.length_cons, Nat.reduceAdd, Nat.reduceLeDiff, Nat.zero_le, le4_0, le4_1, le4_2, le4_3, rz0, rz1, rzt, eq_self, fo_f, fo_a, fo_j, co_f, co_a, co_j, ao_f, ao_a, ao_j, zo_f, zo_a, zo_j, jo_f, jo_a, jo_j, al_f, al_a, al_j, fg_a, fg_j, ag_f, ag_j, jg_f, jg_a, fk_f, fk_a, fk_j, fi_a, fi_j, tI_0, tI_n0, if_true, if_false, ne_eq, not_true_eq_false, not_false_eq_true, and_self, Bool.false_eq_true, e, h8, h9, i2, e6, oc64 h0, of64_0 h0, og64_0 h0, ok64_0 h0, of64_1 h0, og64_1 h0, of64_2 h0, og64_2 h0, of64_3 h0, og64_3 h0, of64_4 h0, og64_4 h0, of64_5 h0, og64_5 h0, ok64_5 h0, of64_6 h0, og64_6 h0, ok64_6 h0, of64_7 h0, og64_7 h0, of64_8 h0, og64_8 h0, of64_9 h0, og64_9 h0, of64_10 h0, og64_10 h0, of64_11 h0, og64_11 h0, of64_12 h0, og64_12 h0, of64_13 h0, og64_13 h0, ok64_13 h0, of64_14 h0, og64_14 h0, of64_15 h0, og64_15 h0, ok64_15 h0, of64_16 h0, og64_16 h0, of64_17 h0, og64_17 h0, of64_18 h0, og64_18 h0, of64_19 h0, og64_19 h0, of64_20 h0, og64_20 h0, of64_21 h0, og64_21 h0, ok64_21 h0, of64_22 h0, og64_22 h0, of64_23 h0, og64_23 h0, ok64_23 h0, of64_24 h0, og64_24 h0, ok64_24 h0, of64_25 h0, og64_25 h0, ok64_25 h0, of64_26 h0, og64_26 h0, ok64_26 h0, of64_27 h0, og64_27 h0, ok64_27 h0, of64_28 h0, og64_28 h0, of64_29 h0, og64_29 h0, of64_30 h0, og64_30 h0, of64_31 h0, og64_31 h0, of64_32 h0, og64_32 h0, of64_33 h0, og64_33 h0, of64_34 h0, og64_34 h0, of64_35 h0, og64_35 h0, ok64_35 h0, of64_36 h0, og64_36 h0, ok64_36 h0, oa67 h0, ol67 h0, b8 hj, c8 hj, hsj, bt_k hs hd10, es, em, j1]
theorem x_foOne {X : Scr} {w : AW} {s j n k : Nat} (h0 : OK w) (hs : s < 1024) (hj : j < 8) (hsj : aget w 67 j = nI s) (hn1 : 1 ≤ n) (hn : n ≤ 9) (hk : k ≤ n) : ∃ w', Z X 145 0 [.ref 64, .int (nI j), .int (nI n), .int (nI k), uns, uns, uns, uns, uns, uns, uns] [] w = some (some (.int (lsN s n 0 (-6) k)), w') ∧ OK w' ∧ same w w' := by
  obtain ⟨w1, a1, a2, a3, a4⟩ := x_fo1 (X := X) (s := s) (v1 := .int (nI j)) (v2 := .int (nI n)) (v3 := .int (nI k)) (v5 := uns) (v6 := uns) (v7 := uns) (v8 := uns) (v9 := uns) (v10 := uns) 1000 0 rfl w h0 (fun t ht => absurd ht (Nat.not_lt_zero t))
  have s67 : aget w1 67 j = nI s := by rw [a4.1 67 (by decide)]; exact hsj
  obtain ⟨w2, b1, b2, b3, b4⟩ := x_fo2 (X := X) (s := s) (v2 := .int (nI n)) (v3 := .int (nI k)) (v5 := uns) (v6 := uns) (v7 := uns) (v8 := uns) (v9 := uns) (v10 := uns) hs hj 900 100 rfl (Nat.le_refl 100) w1 ⟨a2, fun t ht => by
    rw [a3 t (by omega)]
    unfold cvS
    rw [show t / 100 = 0 by omega, canN]
    congr 1
    rw [Bool.eq_iff_iff, decide_eq_true_iff, decide_eq_true_iff]
    omega⟩ s67
  have z0 : nI 0 = 0 := rfl
  have z100 : nI 100 = 100 := rfl
  rw [z0] at a1
  rw [z100] at b1
  have c1 := x_fo4 (X := X) (v2 := .int (nI n)) (v3 := .int (nI k)) hs hj b2 b3 n (by omega) 0 (-6) k uns uns uns sc_u sc_u sc_u (by omega)
  refine ⟨w2, ?_, b2.1, same_tr a4 b4⟩
  simp only [z145_0, z145_1, z145_36, z145_38, z145_84, z145_85, z145_87, z145_89, z145_91, z145_92, z145_94, z145_95, Option.bind_some, Option.toList_some, Option.toList_none, List.cons_append, List.nil_append, sc_i, sc_r, sc_l, sc_u, sc_s, List.length_nil, List.length_cons, Nat.reduceAdd, Nat.reduceLeDiff, Nat.zero_le, le4_0, le4_1, le4_2, le4_3, rz0, rz1, rzt, eq_self, a1, b1, c1]
