/-! rounds that fit -/
def who (x m : Nat) : Nat := (x / 100 + x / 10 % 10 * (m / (x % 10))) % 8
def dig (x : Nat) : Bool := (decide (1 ≤ x / 10 % 10) && decide (x / 10 % 10 ≤ 7)) && (decide (1 ≤ x % 10) && decide (x % 10 ≤ 6))
/-- the sights from i on, n left, fit -/
def okL (A B C : Nat → Int32) (x : Nat) : Nat → Nat → Bool
  | 0, _ => true
  | n + 1, i => (decide (nI (who x (A i).toNatClampNeg) = B i) == decide (C i = 1)) && okL A B C x n (i + 1)
theorem who_le {x m : Nat} : who x m < 8 := Nat.mod_lt _ (by decide)
theorem ne_nI {n : Nat} (h : 1 ≤ n) (hn : n < 1000) : ¬ nI n = 0 := by
  rw [show (0 : Int32) = nI 0 from rfl]
  intro q
  have := (nI_eq (by omega) (by omega)).mp q
  omega
theorem x_hold {X : Scr} {w : AW} {x m : Nat} (hx : x < 800) (hd : 1 ≤ x % 10) (hm : m ≤ 60) : Z X 73 0 [.int (nI x), .int (nI m), uns] [] w = some (some (.int (nI (who x m))), w) := by
  have e1 : nI x - nI x / 10 * 10 = nI (x % 10) := pk_rem (d := 10) (by omega) (by decide) (by decide)
  have e2 : nI x / 100 = nI (x / 100) := pk_div (d := 100) (by omega) (by decide) (by decide)
  have e3 : nI x / 10 = nI (x / 10) := pk_div (d := 10) (by omega) (by decide) (by decide)
  rw [e3] at e1
  have e4 : nI (x / 10) - nI (x / 10) / 10 * 10 = nI (x / 10 % 10) := pk_rem (d := 10) (by omega) (by decide) (by decide)
  have e5 : nI m / nI (x % 10) = nI (m / (x % 10)) := pk_div (by omega) (by omega) (by omega)
  have hdv : m / (x % 10) ≤ 60 := Nat.le_trans (Nat.div_le_self _ _) hm
  have hmul : x / 10 % 10 * (m / (x % 10)) ≤ 9 * 60 := Nat.mul_le_mul (by omega) hdv
  have e6 : nI (x / 100 + x / 10 % 10 * (m / (x % 10))) - nI (x / 100 + x / 10 % 10 * (m / (x % 10))) / 8 * 8 = nI (who x m) := pk_rem (d := 8) (by omega) (by decide) (by decide)
  have n1 : nI (x % 10) ≥ 1 := by
    show (1 : Int32) ≤ nI (x % 10)
    rw [show (1 : Int32) = nI 1 from rfl]
    exact nI_le hd (by omega)
  have n2 : ¬ nI (x % 10) = 0 := ne_nI hd (by omega)
  have n8 : ¬ (8 : Int32) = 0 := by decide
  have n100 : ¬ (100 : Int32) = 0 := by decide
  simp only [z73_0, z73_1, z73_3, z73_4, z73_5, z73_6, z73_7, z73_10, z73_12, z73_13, z73_14, z73_16, z73_17, z73_18, z73_20, z73_21, z73_23, z73_24, z73_25, z73_26, z73_27, z73_28, z73_29, z73_31, z73_32, Option.bind_some, Option.toList_some, Option.toList_none, List.cons_append, List.nil_append, sc_i, sc_r, sc_l, sc_u, sc_s, List.length_nil, List.length_cons, Nat.reduceAdd, Nat.reduceLeDiff, Nat.zero_le, le4_0, le4_1, le4_2, le4_3, rz0, rz1, rzt, eq_self, tI_0, tI_n0, if_true, if_false, ne_eq, not_true_eq_false, not_false_eq_true, and_self, Bool.false_eq_true, i10, n100, n8, e1, n1, n2, e2, e3, e4, e5, pk_mul, nI_add, e6]
theorem x_whoM {X : Scr} {w : AW} {x m : Nat} (hx : x < 800) (hd : 1 ≤ x % 10) (hm : m ≤ 60) : Z X 151 0 [.int (nI x), .int (nI m)] [] w = some (some (.int (nI (who x m))), w) := by
  have e1 : nI x - nI x / 10 * 10 = nI (x % 10) := pk_rem (d := 10) (by omega) (by decide) (by decide)
  have e2 : nI x / 100 = nI (x / 100) := pk_div (d := 100) (by omega) (by decide) (by decide)
  have e3 : nI x / 10 = nI (x / 10) := pk_div (d := 10) (by omega) (by decide) (by decide)
  rw [e3] at e1
  have e4 : nI (x / 10) - nI (x / 10) / 10 * 10 = nI (x / 10 % 10) := pk_rem (d := 10) (by omega) (by decide) (by decide)
  have e5 : nI m / nI (x % 10) = nI (m / (x % 10)) := pk_div (by omega) (by omega) (by omega)
  have hdv : m / (x % 10) ≤ 60 := Nat.le_trans (Nat.div_le_self _ _) hm
  have hmul : x / 10 % 10 * (m / (x % 10)) ≤ 9 * 60 := Nat.mul_le_mul (by omega) hdv
  have e6 : nI (x / 100 + x / 10 % 10 * (m / (x % 10))) - nI (x / 100 + x / 10 % 10 * (m / (x % 10))) / 8 * 8 = nI (who x m) := pk_rem (d := 8) (by omega) (by decide) (by decide)
  have n2 : ¬ nI (x % 10) = 0 := ne_nI hd (by omega)
  have n8 : ¬ (8 : Int32) = 0 := by decide
  have n100 : ¬ (100 : Int32) = 0 := by decide
  simp only [z151_0, z151_1, z151_3, z151_4, z151_5, z151_7, z151_8, z151_10, z151_11, z151_12, z151_13, z151_15, z151_16, z151_17, z151_18, z151_19, z151_21, z151_22, Option.bind_some, Option.toList_some, Option.toList_none, List.cons_append, List.nil_append, sc_i, sc_r, sc_l, sc_u, sc_s, List.length_nil, List.length_cons, Nat.reduceAdd, Nat.reduceLeDiff, Nat.zero_le, le4_0, le4_1, le4_2, le4_3, rz0, rz1, rzt, eq_self, tI_0, tI_n0, if_true, if_false, ne_eq, not_true_eq_false, not_false_eq_true, and_self, Bool.false_eq_true, i10, n100, n8, e1, n2, e2, e3, e4, e5, pk_mul, nI_add, e6]
/-- what the sights are, and what codes are kept -/
def SV (A B C : Nat → Int32) (c : Nat) : Prop := c ≤ 8 ∧ ∀ i, i < 8 → (∃ m, m ≤ 60 ∧ A i = nI m) ∧ (C i = 0 ∨ C i = 1)
def KS (w : AW) (A B C : Nat → Int32) (c : Nat) (acc : List Nat) (K : Nat) : Prop := OK w ∧ fI w 23 3 = nI c ∧ aget w 24 = A ∧ aget w 25 = B ∧ aget w 26 = C ∧ fI w 27 2 = nI acc.length ∧ acc.length ≤ K ∧ ∀ i, i < acc.length → aget w 28 i = nI (acc[i]?.getD 0)
theorem x_keepL {X : Scr} {w : AW} {A B C : Nat → Int32} {c K x : Nat} {acc : List Nat} (sv : SV A B C c) (ks : KS w A B C c acc K) (hx : x < 800) (hd : 1 ≤ x % 10) : ∀ (n i : Nat), i + n = c → ∀ v : Value, isSec v = false → ∃ v' : Value, Z X 72 2 [.ref 27, .int (nI x), .ref 23, .int (nI i), v] [] w = if okL A B C x n i = true then Z X 72 60 [.ref 27, .int (nI x), .ref 23, .int (nI c), v'] [] w else some (none, w) := by
  obtain ⟨h0, k1, k2, k3, k4, k5, k6, k7⟩ := ks
  obtain ⟨hc, hs⟩ := sv
  intro n
  induction n with
  | zero =>
    intro i hi v hsv
    have hi : i = c := hi
    subst hi
    refine ⟨v, ?_⟩
    rw [z72_2]
    simp only [z72_3, z72_4, z72_7, Option.bind_some, Option.toList_some, Option.toList_none, List.cons_append, List.nil_append, sc_i, sc_r, sc_l, sc_u, sc_s, List.length_nil, List.length_cons, Nat.reduceAdd, Nat.reduceLeDiff, Nat.zero_le, le4_0, le4_1, le4_2, le4_3, rz0, rz1, rzt, eq_self, fo_f, fo_a, fo_j, co_f, co_a, co_j, ao_f, ao_a, ao_j, zo_f, zo_a, zo_j, jo_f, jo_a, jo_j, al_f, al_a, al_j, fg_a, fg_j, ag_f, ag_j, jg_f, jg_a, fk_f, fk_a, fk_j, fi_a, fi_j, tI_0, tI_n0, if_true, if_false, ne_eq, not_true_eq_false, not_false_eq_true, and_self, Bool.false_eq_true, oc23 h0, of23_0 h0, og23_0 h0, of23_1 h0, og23_1 h0, of23_2 h0, og23_2 h0, of23_3 h0, og23_3 h0, ok23_3 h0, oc27 h0, of27_0 h0, og27_0 h0, of27_1 h0, og27_1 h0, of27_2 h0, og27_2 h0, ok27_2 h0, of27_3 h0, og27_3 h0, ok27_3 h0, of27_4 h0, og27_4 h0, ok27_4 h0, k1, geN (show i < 1000 by omega) (show i < 1000 by omega), Nat.le_refl, okL]
  | succ n ih =>
    intro i hi v hsv
    have hi8 : i < 8 := by omega
    have e1 : ¬ c ≤ i := by omega
    obtain ⟨⟨m, hm, hA⟩, hC⟩ := hs i hi8
    have hAm : (A i).toNatClampNeg = m := by rw [hA]; exact nI_clamp (by omega)
    have hh := x_hold (X := X) (w := w) hx hd hm
    have hnx : nI i + 1 = nI (i + 1) := nI_1 i
    rw [okL, hAm]
    by_cases q : nI (who x m) = B i
    · rcases hC with hC | hC
      · have z : ¬ (1 : Int32) = 0 := z10
        refine ⟨.int 1, ?_⟩
        rw [z72_2]
        simp only [z72_0, z72_1, z72_3, z72_4, z72_7, z72_10, z72_11, z72_13, z72_16, z72_17, z72_18, z72_21, z72_22, z72_23, z72_26, z72_27, z72_30, z72_31, z72_32, z72_35, z72_36, z72_39, z72_40, z72_42, z72_44, z72_45, z72_48, z72_49, z72_50, z72_53, z72_54, z72_57, z72_61, z72_64, z72_65, z72_68, z72_71, z72_74, z72_75, z72_78, z72_79, z72_82, z72_83, z72_84, z72_85, z72_85r, z72_86, z72_89, z72_90, z72_91, z72_94, Option.bind_some, Option.toList_some, Option.toList_none, List.cons_append, List.nil_append, sc_i, sc_r, sc_l, sc_u, sc_s, List.length_nil, List.length_cons, Nat.reduceAdd, Nat.reduceLeDiff, Nat.zero_le, le4_0, le4_1, le4_2, le4_3, rz0, rz1, rzt, eq_self, fo_f, fo_a, fo_j, co_f, co_a, co_j, ao_f, ao_a, ao_j, zo_f, zo_a, zo_j, jo_f, jo_a, jo_j, al_f, al_a, al_j, fg_a, fg_j, ag_f, ag_j, jg_f, jg_a, fk_f, fk_a, fk_j, fi_a, fi_j, tI_0, tI_n0, if_true, if_false, ne_eq, not_true_eq_false, not_false_eq_true, and_self, Bool.false_eq_true, oc23 h0, of23_0 h0, og23_0 h0, of23_1 h0, og23_1 h0, of23_2 h0, og23_2 h0, of23_3 h0, og23_3 h0, ok23_3 h0, oa24 h0, ol24 h0, oa25 h0, ol25 h0, oa26 h0, ol26 h0, oc27 h0, of27_0 h0, og27_0 h0, of27_1 h0, og27_1 h0, of27_2 h0, og27_2 h0, ok27_2 h0, of27_3 h0, og27_3 h0, ok27_3 h0, of27_4 h0, og27_4 h0, ok27_4 h0, k1, k2, k3, k4, hsv, geN (show i < 1000 by omega) (show c < 1000 by omega), e1, nI_nge8 hi8, b8 hi8, c8 hi8, hA, hh, q, hC, z]
        simp
      · obtain ⟨v', hv⟩ := ih (i + 1) (by omega) (.int 1) sc_i
        refine ⟨v', ?_⟩
        rw [z72_2]
        simp only [z72_0, z72_1, z72_3, z72_4, z72_7, z72_10, z72_11, z72_13, z72_16, z72_17, z72_18, z72_21, z72_22, z72_23, z72_26, z72_27, z72_30, z72_31, z72_32, z72_35, z72_36, z72_39, z72_40, z72_42, z72_44, z72_45, z72_48, z72_49, z72_50, z72_53, z72_54, z72_57, z72_61, z72_64, z72_65, z72_68, z72_71, z72_74, z72_75, z72_78, z72_79, z72_82, z72_83, z72_84, z72_85, z72_85r, z72_86, z72_89, z72_90, z72_91, z72_94, Option.bind_some, Option.toList_some, Option.toList_none, List.cons_append, List.nil_append, sc_i, sc_r, sc_l, sc_u, sc_s, List.length_nil, List.length_cons, Nat.reduceAdd, Nat.reduceLeDiff, Nat.zero_le, le4_0, le4_1, le4_2, le4_3, rz0, rz1, rzt, eq_self, fo_f, fo_a, fo_j, co_f, co_a, co_j, ao_f, ao_a, ao_j, zo_f, zo_a, zo_j, jo_f, jo_a, jo_j, al_f, al_a, al_j, fg_a, fg_j, ag_f, ag_j, jg_f, jg_a, fk_f, fk_a, fk_j, fi_a, fi_j, tI_0, tI_n0, if_true, if_false, ne_eq, not_true_eq_false, not_false_eq_true, and_self, Bool.false_eq_true, oc23 h0, of23_0 h0, og23_0 h0, of23_1 h0, og23_1 h0, of23_2 h0, og23_2 h0, of23_3 h0, og23_3 h0, ok23_3 h0, oa24 h0, ol24 h0, oa25 h0, ol25 h0, oa26 h0, ol26 h0, oc27 h0, of27_0 h0, og27_0 h0, of27_1 h0, og27_1 h0, of27_2 h0, og27_2 h0, ok27_2 h0, of27_3 h0, og27_3 h0, ok27_3 h0, of27_4 h0, og27_4 h0, ok27_4 h0, k1, k2, k3, k4, hsv, geN (show i < 1000 by omega) (show c < 1000 by omega), e1, nI_nge8 hi8, b8 hi8, c8 hi8, hA, hh, q, hC, hnx, hv]
        simp
    · rcases hC with hC | hC
      · obtain ⟨v', hv⟩ := ih (i + 1) (by omega) (.int 0) sc_i
        refine ⟨v', ?_⟩
        rw [z72_2]
        simp only [z72_0, z72_1, z72_3, z72_4, z72_7, z72_10, z72_11, z72_13, z72_16, z72_17, z72_18, z72_21, z72_22, z72_23, z72_26, z72_27, z72_30, z72_31, z72_32, z72_35, z72_36, z72_39, z72_40, z72_42, z72_44, z72_45, z72_48, z72_49, z72_50, z72_53, z72_54, z72_57, z72_61, z72_64, z72_65, z72_68, z72_71, z72_74, z72_75, z72_78, z72_79, z72_82, z72_83, z72_84, z72_85, z72_85r, z72_86, z72_89, z72_90, z72_91, z72_94, Option.bind_some, Option.toList_some, Option.toList_none, List.cons_append, List.nil_append, sc_i, sc_r, sc_l, sc_u, sc_s, List.length_nil, List.length_cons, Nat.reduceAdd, Nat.reduceLeDiff, Nat.zero_le, le4_0, le4_1, le4_2, le4_3, rz0, rz1, rzt, eq_self, fo_f, fo_a, fo_j, co_f, co_a, co_j, ao_f, ao_a, ao_j, zo_f, zo_a, zo_j, jo_f, jo_a, jo_j, al_f, al_a, al_j, fg_a, fg_j, ag_f, ag_j, jg_f, jg_a, fk_f, fk_a, fk_j, fi_a, fi_j, tI_0, tI_n0, if_true, if_false, ne_eq, not_true_eq_false, not_false_eq_true, and_self, Bool.false_eq_true, oc23 h0, of23_0 h0, og23_0 h0, of23_1 h0, og23_1 h0, of23_2 h0, og23_2 h0, of23_3 h0, og23_3 h0, ok23_3 h0, oa24 h0, ol24 h0, oa25 h0, ol25 h0, oa26 h0, ol26 h0, oc27 h0, of27_0 h0, og27_0 h0, of27_1 h0, og27_1 h0, of27_2 h0, og27_2 h0, ok27_2 h0, of27_3 h0, og27_3 h0, ok27_3 h0, of27_4 h0, og27_4 h0, ok27_4 h0, k1, k2, k3, k4, hsv, geN (show i < 1000 by omega) (show c < 1000 by omega), e1, nI_nge8 hi8, b8 hi8, c8 hi8, hA, hh, q, hC, hnx, hv]
        simp
      · have z : ¬ (0 : Int32) = 1 := by decide
        refine ⟨.int 0, ?_⟩
        rw [z72_2]
        simp only [z72_0, z72_1, z72_3, z72_4, z72_7, z72_10, z72_11, z72_13, z72_16, z72_17, z72_18, z72_21, z72_22, z72_23, z72_26, z72_27, z72_30, z72_31, z72_32, z72_35, z72_36, z72_39, z72_40, z72_42, z72_44, z72_45, z72_48, z72_49, z72_50, z72_53, z72_54, z72_57, z72_61, z72_64, z72_65, z72_68, z72_71, z72_74, z72_75, z72_78, z72_79, z72_82, z72_83, z72_84, z72_85, z72_85r, z72_86, z72_89, z72_90, z72_91, z72_94, Option.bind_some, Option.toList_some, Option.toList_none, List.cons_append, List.nil_append, sc_i, sc_r, sc_l, sc_u, sc_s, List.length_nil, List.length_cons, Nat.reduceAdd, Nat.reduceLeDiff, Nat.zero_le, le4_0, le4_1, le4_2, le4_3, rz0, rz1, rzt, eq_self, fo_f, fo_a, fo_j, co_f, co_a, co_j, ao_f, ao_a, ao_j, zo_f, zo_a, zo_j, jo_f, jo_a, jo_j, al_f, al_a, al_j, fg_a, fg_j, ag_f, ag_j, jg_f, jg_a, fk_f, fk_a, fk_j, fi_a, fi_j, tI_0, tI_n0, if_true, if_false, ne_eq, not_true_eq_false, not_false_eq_true, and_self, Bool.false_eq_true, oc23 h0, of23_0 h0, og23_0 h0, of23_1 h0, og23_1 h0, of23_2 h0, og23_2 h0, of23_3 h0, og23_3 h0, ok23_3 h0, oa24 h0, ol24 h0, oa25 h0, ol25 h0, oa26 h0, ol26 h0, oc27 h0, of27_0 h0, og27_0 h0, of27_1 h0, og27_1 h0, of27_2 h0, og27_2 h0, ok27_2 h0, of27_3 h0, og27_3 h0, ok27_3 h0, of27_4 h0, og27_4 h0, ok27_4 h0, k1, k2, k3, k4, hsv, geN (show i < 1000 by omega) (show c < 1000 by omega), e1, nI_nge8 hi8, b8 hi8, c8 hi8, hA, hh, q, hC, z]
        simp
theorem x_keep {X : Scr} {w : AW} {A B C : Nat → Int32} {c K x : Nat} {acc : List Nat} (sv : SV A B C c) (ks : KS w A B C c acc K) (hx : x < 800) (hd : 1 ≤ x % 10) (hK : K < 336) : ∃ w', Z X 72 0 [.ref 27, .int (nI x), .ref 23, uns, uns] [] w = some (none, w') ∧ KS w' A B C c (acc ++ [x].filter (fun x => okL A B C x c 0)) (K + 1) ∧ same w w' := by
  obtain ⟨v', hv⟩ := x_keepL (X := X) sv ks hx hd c 0 (by omega) uns sc_u
  obtain ⟨h0, k1, k2, k3, k4, k5, k6, k7⟩ := ks
  have z0 : nI 0 = 0 := rfl
  rw [z0] at hv
  by_cases q : okL A B C x c 0 = true
  · rw [if_pos q] at hv
    have hc1 : 0 ≤ nI acc.length ∧ nI acc.length ≤ 335 := ⟨nI_pos' (by omega), by rw [show (335 : Int32) = nI 335 from rfl]; exact nI_le (by omega) (by omega)⟩
    have hb : inB (nI acc.length) 336 = true := inB_nI (by omega) (by decide)
    have hcl : (nI acc.length).toNatClampNeg = acc.length := nI_clamp (by omega)
    refine ⟨fset (aset w 28 (upd (aget w 28) acc.length (nI x))) 27 2 (.int (nI acc.length + 1)), ?_, ?_, ?_⟩
    · simp only [z72_0, z72_1, z72_3, z72_4, z72_7, z72_10, z72_11, z72_13, z72_16, z72_17, z72_18, z72_21, z72_22, z72_23, z72_26, z72_27, z72_30, z72_31, z72_32, z72_35, z72_36, z72_39, z72_40, z72_42, z72_44, z72_45, z72_48, z72_49, z72_50, z72_53, z72_54, z72_57, z72_60, z72_61, z72_64, z72_65, z72_68, z72_71, z72_74, z72_75, z72_78, z72_79, z72_82, z72_83, z72_84, z72_85, z72_85r, z72_86, z72_89, z72_90, z72_91, z72_94, Option.bind_some, Option.toList_some, Option.toList_none, List.cons_append, List.nil_append, sc_i, sc_r, sc_l, sc_u, sc_s, List.length_nil, List.length_cons, Nat.reduceAdd, Nat.reduceLeDiff, Nat.zero_le, le4_0, le4_1, le4_2, le4_3, rz0, rz1, rzt, eq_self, fo_f, fo_a, fo_j, co_f, co_a, co_j, ao_f, ao_a, ao_j, zo_f, zo_a, zo_j, jo_f, jo_a, jo_j, al_f, al_a, al_j, fg_a, fg_j, ag_f, ag_j, jg_f, jg_a, fk_f, fk_a, fk_j, fi_a, fi_j, tI_0, tI_n0, if_true, if_false, ne_eq, not_true_eq_false, not_false_eq_true, and_self, Bool.false_eq_true, hv, oc23 h0, of23_0 h0, og23_0 h0, of23_1 h0, og23_1 h0, of23_2 h0, og23_2 h0, of23_3 h0, og23_3 h0, ok23_3 h0, oc27 h0, of27_0 h0, og27_0 h0, of27_1 h0, og27_1 h0, of27_2 h0, og27_2 h0, ok27_2 h0, of27_3 h0, og27_3 h0, ok27_3 h0, of27_4 h0, og27_4 h0, ok27_4 h0, oa28 h0, ol28 h0, k5, x_isIn, hc1, hb, hcl]
    · have hf : [x].filter (fun x => okL A B C x c 0) = [x] := by simp [q]
      rw [hf]
      refine ⟨?_, ?_, ?_, ?_, ?_, ?_, ?_, ?_⟩
      · repeat' first | exact h0 | apply ok_a | refine ok_f ?_ (by decide)
      · simp only [fo_f, fo_a, fo_j, co_f, co_a, co_j, ao_f, ao_a, ao_j, zo_f, zo_a, zo_j, jo_f, jo_a, jo_j, al_f, al_a, al_j, fg_a, fg_j, ag_f, ag_j, jg_f, jg_a, fk_f, fk_a, fk_j, fi_a, fi_j, ag_s, ag_z, ag_n, fi_s, fi_n, fg_s, fg_n, jg_s, jg_n, Nat.reduceEqDiff, not_false_eq_true, and_false, false_and, true_and, and_true, and_self, oc23 h0, of23_0 h0, og23_0 h0, of23_1 h0, og23_1 h0, of23_2 h0, og23_2 h0, of23_3 h0, og23_3 h0, ok23_3 h0, oc27 h0, of27_0 h0, og27_0 h0, of27_1 h0, og27_1 h0, of27_2 h0, og27_2 h0, ok27_2 h0, of27_3 h0, og27_3 h0, ok27_3 h0, of27_4 h0, og27_4 h0, ok27_4 h0, oa28 h0, ol28 h0, k1]
      · simp only [fo_f, fo_a, fo_j, co_f, co_a, co_j, ao_f, ao_a, ao_j, zo_f, zo_a, zo_j, jo_f, jo_a, jo_j, al_f, al_a, al_j, fg_a, fg_j, ag_f, ag_j, jg_f, jg_a, fk_f, fk_a, fk_j, fi_a, fi_j, ag_s, ag_z, ag_n, fi_s, fi_n, fg_s, fg_n, jg_s, jg_n, Nat.reduceEqDiff, not_false_eq_true, and_false, false_and, true_and, and_true, and_self, oc23 h0, of23_0 h0, og23_0 h0, of23_1 h0, og23_1 h0, of23_2 h0, og23_2 h0, of23_3 h0, og23_3 h0, ok23_3 h0, oc27 h0, of27_0 h0, og27_0 h0, of27_1 h0, og27_1 h0, of27_2 h0, og27_2 h0, ok27_2 h0, of27_3 h0, og27_3 h0, ok27_3 h0, of27_4 h0, og27_4 h0, ok27_4 h0, oa28 h0, ol28 h0, k2]
      · simp only [fo_f, fo_a, fo_j, co_f, co_a, co_j, ao_f, ao_a, ao_j, zo_f, zo_a, zo_j, jo_f, jo_a, jo_j, al_f, al_a, al_j, fg_a, fg_j, ag_f, ag_j, jg_f, jg_a, fk_f, fk_a, fk_j, fi_a, fi_j, ag_s, ag_z, ag_n, fi_s, fi_n, fg_s, fg_n, jg_s, jg_n, Nat.reduceEqDiff, not_false_eq_true, and_false, false_and, true_and, and_true, and_self, oc23 h0, of23_0 h0, og23_0 h0, of23_1 h0, og23_1 h0, of23_2 h0, og23_2 h0, of23_3 h0, og23_3 h0, ok23_3 h0, oc27 h0, of27_0 h0, og27_0 h0, of27_1 h0, og27_1 h0, of27_2 h0, og27_2 h0, ok27_2 h0, of27_3 h0, og27_3 h0, ok27_3 h0, of27_4 h0, og27_4 h0, ok27_4 h0, oa28 h0, ol28 h0, k3]
      · simp only [fo_f, fo_a, fo_j, co_f, co_a, co_j, ao_f, ao_a, ao_j, zo_f, zo_a, zo_j, jo_f, jo_a, jo_j, al_f, al_a, al_j, fg_a, fg_j, ag_f, ag_j, jg_f, jg_a, fk_f, fk_a, fk_j, fi_a, fi_j, ag_s, ag_z, ag_n, fi_s, fi_n, fg_s, fg_n, jg_s, jg_n, Nat.reduceEqDiff, not_false_eq_true, and_false, false_and, true_and, and_true, and_self, oc23 h0, of23_0 h0, og23_0 h0, of23_1 h0, og23_1 h0, of23_2 h0, og23_2 h0, of23_3 h0, og23_3 h0, ok23_3 h0, oc27 h0, of27_0 h0, og27_0 h0, of27_1 h0, og27_1 h0, of27_2 h0, og27_2 h0, ok27_2 h0, of27_3 h0, og27_3 h0, ok27_3 h0, of27_4 h0, og27_4 h0, ok27_4 h0, oa28 h0, ol28 h0, k4]
      · simp only [fo_f, fo_a, fo_j, co_f, co_a, co_j, ao_f, ao_a, ao_j, zo_f, zo_a, zo_j, jo_f, jo_a, jo_j, al_f, al_a, al_j, fg_a, fg_j, ag_f, ag_j, jg_f, jg_a, fk_f, fk_a, fk_j, fi_a, fi_j, ag_s, ag_z, ag_n, fi_s, fi_n, fg_s, fg_n, jg_s, jg_n, Nat.reduceEqDiff, not_false_eq_true, and_false, false_and, true_and, and_true, and_self, oc23 h0, of23_0 h0, og23_0 h0, of23_1 h0, og23_1 h0, of23_2 h0, og23_2 h0, of23_3 h0, og23_3 h0, ok23_3 h0, oc27 h0, of27_0 h0, og27_0 h0, of27_1 h0, og27_1 h0, of27_2 h0, og27_2 h0, ok27_2 h0, of27_3 h0, og27_3 h0, ok27_3 h0, of27_4 h0, og27_4 h0, ok27_4 h0, oa28 h0, ol28 h0, nI_1, List.length_append, List.length_cons, List.length_nil]
      · simp only [List.length_append, List.length_cons, List.length_nil]; omega
      · intro i hi
        simp only [List.length_append, List.length_cons, List.length_nil] at hi
        simp only [fo_f, fo_a, fo_j, co_f, co_a, co_j, ao_f, ao_a, ao_j, zo_f, zo_a, zo_j, jo_f, jo_a, jo_j, al_f, al_a, al_j, fg_a, fg_j, ag_f, ag_j, jg_f, jg_a, fk_f, fk_a, fk_j, fi_a, fi_j, ag_s, ag_z, ag_n, fi_s, fi_n, fg_s, fg_n, jg_s, jg_n, Nat.reduceEqDiff, not_false_eq_true, and_false, false_and, true_and, and_true, and_self, oc23 h0, of23_0 h0, og23_0 h0, of23_1 h0, og23_1 h0, of23_2 h0, og23_2 h0, of23_3 h0, og23_3 h0, ok23_3 h0, oc27 h0, of27_0 h0, og27_0 h0, of27_1 h0, og27_1 h0, of27_2 h0, og27_2 h0, ok27_2 h0, of27_3 h0, og27_3 h0, ok27_3 h0, of27_4 h0, og27_4 h0, ok27_4 h0, oa28 h0, ol28 h0, updI]
        by_cases e : i = acc.length
        · subst e
          rw [if_pos rfl, List.getElem?_append_right (Nat.le_refl _)]
          simp
        · rw [if_neg e, k7 i (by omega), List.getElem?_append_left (by omega)]
    · exact same_tr (same_a (by decide)) (same_f (by decide))
  · rw [if_neg q] at hv
    have hf : [x].filter (fun x => okL A B C x c 0) = [] := by simp [q]
    rw [hf, List.append_nil]
    refine ⟨w, ?_, ⟨h0, k1, k2, k3, k4, k5, by omega, k7⟩, same_rf⟩
    simp only [z72_0, z72_1, z72_3, z72_4, z72_7, z72_10, z72_11, z72_13, z72_16, z72_17, z72_18, z72_21, z72_22, z72_23, z72_26, z72_27, z72_30, z72_31, z72_32, z72_35, z72_36, z72_39, z72_40, z72_42, z72_44, z72_45, z72_48, z72_49, z72_50, z72_53, z72_54, z72_57, z72_60, z72_61, z72_64, z72_65, z72_68, z72_71, z72_74, z72_75, z72_78, z72_79, z72_82, z72_83, z72_84, z72_85, z72_85r, z72_86, z72_89, z72_90, z72_91, z72_94, Option.bind_some, Option.toList_some, Option.toList_none, List.cons_append, List.nil_append, sc_i, sc_r, sc_l, sc_u, sc_s, List.length_nil, List.length_cons, Nat.reduceAdd, Nat.reduceLeDiff, Nat.zero_le, le4_0, le4_1, le4_2, le4_3, rz0, rz1, rzt, eq_self, hv]
def cdP (f s p n : Nat) : List Nat := (List.range' p n).map (fun p => 100 * f + 10 * s + p)
def cdS (f s n : Nat) : List Nat := (List.range' s n).flatMap (fun s => cdP f s 1 6)
def cdF (f n : Nat) : List Nat := (List.range' f n).flatMap (fun f => cdS f 1 7)
theorem cd_all : cdF 0 8 = (List.range' 0 800).filter dig := by decide +kernel
theorem gt6 {n : Nat} (h : n < 1000) {m : Nat} {M : Int32} (hM : M = nI m) (hm : m < 1000) : (nI n > M) = (m < n) := by rw [hM]; exact gtN h hm
theorem x_colP {X : Scr} {A B C : Nat → Int32} {c f s : Nat} (sv : SV A B C c) (hf : f < 8) (hs : s ≤ 7) : ∀ (n p : Nat), p + n = 7 → 1 ≤ p → ∀ (w : AW) (acc : List Nat) (K : Nat), K + n ≤ 336 → KS w A B C c acc K → ∃ w', Z X 71 24 [.ref 27, .ref 23, .int (nI f), .int (nI s), .int (nI p)] [] w = Z X 71 54 [.ref 27, .ref 23, .int (nI f), .int (nI s), .int (nI 7)] [] w' ∧ KS w' A B C c (acc ++ (cdP f s p n).filter (fun x => okL A B C x c 0)) (K + n) ∧ same w w' := by
  intro n
  induction n with
  | zero =>
    intro p hp h1 w acc K hK ks
    have hp : p = 7 := hp
    subst hp
    have e : nI 7 > 6 := by decide
    refine ⟨w, ?_, ?_, same_rf⟩
    · rw [z71_24]
      simp only [z71_26, z71_28, Option.bind_some, Option.toList_some, Option.toList_none, List.cons_append, List.nil_append, sc_i, sc_r, sc_l, sc_u, sc_s, List.length_nil, List.length_cons, Nat.reduceAdd, Nat.reduceLeDiff, Nat.zero_le, le4_0, le4_1, le4_2, le4_3, rz0, rz1, rzt, eq_self, tI_0, tI_n0, if_true, if_false, ne_eq, not_true_eq_false, not_false_eq_true, and_self, Bool.false_eq_true, e]
    · simpa [cdP] using ks
  | succ n ih =>
    intro p hp h1 w acc K hK ks
    have h0 := ks.1
    have e : (nI p > 6) = (6 < p) := gtN (b := 6) (by omega) (by decide)
    have e' : ¬ 6 < p := by omega
    have he : (100 : Int32) * nI f + 10 * nI s + nI p = nI (100 * f + 10 * s + p) := by
      rw [show (100 : Int32) = nI 100 from rfl, show (10 : Int32) = nI 10 from rfl, pk_mul, pk_mul, nI_add, nI_add]
    obtain ⟨w1, q1, q2, q3⟩ := x_keep (X := X) sv ks (x := 100 * f + 10 * s + p) (by omega) (by omega) (by omega)
    obtain ⟨w2, r1, r2, r3⟩ := ih (p + 1) (by omega) (by omega) w1 _ (K + 1) (by omega) q2
    refine ⟨w2, ?_, ?_, same_tr q3 r3⟩
    · rw [← r1, z71_24]
      simp only [z71_26, z71_28, z71_31, z71_32, z71_34, z71_35, z71_36, z71_38, z71_39, z71_40, z71_41, z71_43, z71_44, z71_45, z71_48, z71_51, Option.bind_some, Option.toList_some, Option.toList_none, List.cons_append, List.nil_append, sc_i, sc_r, sc_l, sc_u, sc_s, List.length_nil, List.length_cons, Nat.reduceAdd, Nat.reduceLeDiff, Nat.zero_le, le4_0, le4_1, le4_2, le4_3, rz0, rz1, rzt, eq_self, tI_0, tI_n0, if_true, if_false, ne_eq, not_true_eq_false, not_false_eq_true, and_self, Bool.false_eq_true, e, e', he, oc27 h0, of27_0 h0, og27_0 h0, of27_1 h0, og27_1 h0, of27_2 h0, og27_2 h0, ok27_2 h0, of27_3 h0, og27_3 h0, ok27_3 h0, of27_4 h0, og27_4 h0, ok27_4 h0, q1, nI_1]
    · have ee : cdP f s p (n + 1) = [100 * f + 10 * s + p] ++ cdP f s (p + 1) n := by simp [cdP, List.range'_succ]
      rw [ee, List.filter_append, ← List.append_assoc, show K + (n + 1) = K + 1 + n by omega]
      exact r2
theorem x_colS {X : Scr} {A B C : Nat → Int32} {c f : Nat} (sv : SV A B C c) (hf : f < 8) : ∀ (n s : Nat), s + n = 8 → ∀ (w : AW) (acc : List Nat) (K : Nat) (v : Value), isSec v = false → K + 6 * n ≤ 336 → KS w A B C c acc K → ∃ (w' : AW) (v' : Value), isSec v' = false ∧ Z X 71 15 [.ref 27, .ref 23, .int (nI f), .int (nI s), v] [] w = Z X 71 60 [.ref 27, .ref 23, .int (nI f), .int (nI 8), v'] [] w' ∧ KS w' A B C c (acc ++ (cdS f s n).filter (fun x => okL A B C x c 0)) (K + 6 * n) ∧ same w w' := by
  intro n
  induction n with
  | zero =>
    intro s hp w acc K v hv hK ks
    have hp : s = 8 := hp
    subst hp
    have e : nI 8 > 7 := by decide
    refine ⟨w, v, hv, ?_, ?_, same_rf⟩
    · rw [z71_15]
      simp only [z71_16, z71_18, Option.bind_some, Option.toList_some, Option.toList_none, List.cons_append, List.nil_append, sc_i, sc_r, sc_l, sc_u, sc_s, List.length_nil, List.length_cons, Nat.reduceAdd, Nat.reduceLeDiff, Nat.zero_le, le4_0, le4_1, le4_2, le4_3, rz0, rz1, rzt, eq_self, tI_0, tI_n0, if_true, if_false, ne_eq, not_true_eq_false, not_false_eq_true, and_self, Bool.false_eq_true, e]
    · simpa [cdS] using ks
  | succ n ih =>
    intro s hp w acc K v hv hK ks
    have e : (nI s > 7) = (7 < s) := gtN (b := 7) (by omega) (by decide)
    have e' : ¬ 7 < s := by omega
    obtain ⟨w1, q1, q2, q3⟩ := x_colP (X := X) sv hf (show s ≤ 7 by omega) 6 1 rfl (Nat.le_refl 1) w acc K (by omega) ks
    obtain ⟨w2, v2, hv2, r1, r2, r3⟩ := ih (s + 1) (by omega) w1 _ (K + 6) (.int (nI 7)) sc_i (by omega) q2
    have z1 : nI 1 = 1 := rfl
    rw [z1] at q1
    refine ⟨w2, v2, hv2, ?_, ?_, same_tr q3 r3⟩
    · rw [← r1, z71_15]
      simp only [z71_16, z71_18, z71_21, z71_22, z71_54, z71_57, Option.bind_some, Option.toList_some, Option.toList_none, List.cons_append, List.nil_append, sc_i, sc_r, sc_l, sc_u, sc_s, List.length_nil, List.length_cons, Nat.reduceAdd, Nat.reduceLeDiff, Nat.zero_le, le4_0, le4_1, le4_2, le4_3, rz0, rz1, rzt, eq_self, tI_0, tI_n0, if_true, if_false, ne_eq, not_true_eq_false, not_false_eq_true, and_self, Bool.false_eq_true, e, e', hv, q1, nI_1]
    · have ee : cdS f s (n + 1) = cdP f s 1 6 ++ cdS f (s + 1) n := by simp [cdS, List.range'_succ]
      rw [ee, List.filter_append, ← List.append_assoc, show K + 6 * (n + 1) = K + 6 + 6 * n by omega]
      exact r2
theorem x_colF {X : Scr} {A B C : Nat → Int32} {c : Nat} (sv : SV A B C c) : ∀ (n f : Nat), f + n = 8 → ∀ (w : AW) (acc : List Nat) (K : Nat) (u v : Value), isSec u = false → isSec v = false → K + 42 * n ≤ 336 → KS w A B C c acc K → ∃ (w' : AW), Z X 71 7 [.ref 27, .ref 23, .int (nI f), u, v] [] w = some (none, w') ∧ KS w' A B C c (acc ++ (cdF f n).filter (fun x => okL A B C x c 0)) (K + 42 * n) ∧ same w w' := by
  intro n
  induction n with
  | zero =>
    intro f hp w acc K u v hu hv hK ks
    have hp : f = 8 := hp
    subst hp
    have e : nI 8 ≥ 8 := by decide
    refine ⟨w, ?_, ?_, same_rf⟩
    · rw [z71_7]
      simp only [z71_8, z71_10, z71_66, Option.bind_some, Option.toList_some, Option.toList_none, List.cons_append, List.nil_append, sc_i, sc_r, sc_l, sc_u, sc_s, List.length_nil, List.length_cons, Nat.reduceAdd, Nat.reduceLeDiff, Nat.zero_le, le4_0, le4_1, le4_2, le4_3, rz0, rz1, rzt, eq_self, tI_0, tI_n0, if_true, if_false, ne_eq, not_true_eq_false, not_false_eq_true, and_self, Bool.false_eq_true, e]
    · simpa [cdF] using ks
  | succ n ih =>
    intro f hp w acc K u v hu hv hK ks
    obtain ⟨w1, v1, hv1, q1, q2, q3⟩ := x_colS (X := X) sv (show f < 8 by omega) 7 1 rfl w acc K v hv (by omega) ks
    obtain ⟨w2, r1, r2, r3⟩ := ih (f + 1) (by omega) w1 _ (K + 42) (.int (nI 8)) v1 sc_i hv1 (by omega) q2
    have z1 : nI 1 = 1 := rfl
    rw [z1] at q1
    refine ⟨w2, ?_, ?_, same_tr q3 r3⟩
    · rw [← r1, z71_7]
      simp only [z71_8, z71_10, z71_13, z71_14, z71_60, z71_63, Option.bind_some, Option.toList_some, Option.toList_none, List.cons_append, List.nil_append, sc_i, sc_r, sc_l, sc_u, sc_s, List.length_nil, List.length_cons, Nat.reduceAdd, Nat.reduceLeDiff, Nat.zero_le, le4_0, le4_1, le4_2, le4_3, rz0, rz1, rzt, eq_self, tI_0, tI_n0, if_true, if_false, ne_eq, not_true_eq_false, not_false_eq_true, and_self, Bool.false_eq_true, nI_nge8 (show f < 8 by omega), hu, q1, nI_1]
    · have ee : cdF f (n + 1) = cdS f 1 7 ++ cdF (f + 1) n := by simp [cdF, List.range'_succ]
      rw [ee, List.filter_append, ← List.append_assoc, show K + 42 * (n + 1) = K + 42 + 42 * n by omega]
      exact r2
/-- the codes that fit -/
def fitL (A B C : Nat → Int32) (c x n : Nat) : List Nat := (List.range' x n).filter (fun x => dig x && okL A B C x c 0)
theorem x_col {X : Scr} {w : AW} {A B C : Nat → Int32} {c : Nat} (sv : SV A B C c) (h0 : OK w) (k1 : fI w 23 3 = nI c) (k2 : aget w 24 = A) (k3 : aget w 25 = B) (k4 : aget w 26 = C) : ∃ w', Z X 71 0 [.ref 27, .ref 23, uns, uns, uns] [] w = some (none, w') ∧ KS w' A B C c (fitL A B C c 0 800) 336 ∧ same w w' := by
  have ks : KS (fset w 27 2 (.int 0)) A B C c [] 0 := by
    refine ⟨ok_f h0 (by decide), ?_, ?_, ?_, ?_, ?_, Nat.le_refl 0, fun i hi => absurd hi (Nat.not_lt_zero i)⟩
    · simp only [fo_f, fo_a, fo_j, co_f, co_a, co_j, ao_f, ao_a, ao_j, zo_f, zo_a, zo_j, jo_f, jo_a, jo_j, al_f, al_a, al_j, fg_a, fg_j, ag_f, ag_j, jg_f, jg_a, fk_f, fk_a, fk_j, fi_a, fi_j, ag_s, ag_z, ag_n, fi_s, fi_n, fg_s, fg_n, jg_s, jg_n, Nat.reduceEqDiff, not_false_eq_true, and_false, false_and, true_and, and_true, and_self, k1]
    · simp only [fo_f, fo_a, fo_j, co_f, co_a, co_j, ao_f, ao_a, ao_j, zo_f, zo_a, zo_j, jo_f, jo_a, jo_j, al_f, al_a, al_j, fg_a, fg_j, ag_f, ag_j, jg_f, jg_a, fk_f, fk_a, fk_j, fi_a, fi_j, ag_s, ag_z, ag_n, fi_s, fi_n, fg_s, fg_n, jg_s, jg_n, Nat.reduceEqDiff, not_false_eq_true, and_false, false_and, true_and, and_true, and_self, k2]
    · simp only [fo_f, fo_a, fo_j, co_f, co_a, co_j, ao_f, ao_a, ao_j, zo_f, zo_a, zo_j, jo_f, jo_a, jo_j, al_f, al_a, al_j, fg_a, fg_j, ag_f, ag_j, jg_f, jg_a, fk_f, fk_a, fk_j, fi_a, fi_j, ag_s, ag_z, ag_n, fi_s, fi_n, fg_s, fg_n, jg_s, jg_n, Nat.reduceEqDiff, not_false_eq_true, and_false, false_and, true_and, and_true, and_self, k3]
    · simp only [fo_f, fo_a, fo_j, co_f, co_a, co_j, ao_f, ao_a, ao_j, zo_f, zo_a, zo_j, jo_f, jo_a, jo_j, al_f, al_a, al_j, fg_a, fg_j, ag_f, ag_j, jg_f, jg_a, fk_f, fk_a, fk_j, fi_a, fi_j, ag_s, ag_z, ag_n, fi_s, fi_n, fg_s, fg_n, jg_s, jg_n, Nat.reduceEqDiff, not_false_eq_true, and_false, false_and, true_and, and_true, and_self, k4]
    · simp only [fo_f, fo_a, fo_j, co_f, co_a, co_j, ao_f, ao_a, ao_j, zo_f, zo_a, zo_j, jo_f, jo_a, jo_j, al_f, al_a, al_j, fg_a, fg_j, ag_f, ag_j, jg_f, jg_a, fk_f, fk_a, fk_j, fi_a, fi_j, ag_s, ag_z, ag_n, fi_s, fi_n, fg_s, fg_n, jg_s, jg_n, Nat.reduceEqDiff, not_false_eq_true, and_false, false_and, true_and, and_true, and_self, oc27 h0, of27_0 h0, og27_0 h0, of27_1 h0, og27_1 h0, of27_2 h0, og27_2 h0, ok27_2 h0, of27_3 h0, og27_3 h0, ok27_3 h0, of27_4 h0, og27_4 h0, ok27_4 h0]
      rfl
  obtain ⟨w1, q1, q2, q3⟩ := x_colF (X := X) sv 8 0 rfl _ [] 0 uns uns sc_u sc_u (by decide) ks
  have z0 : nI 0 = 0 := rfl
  rw [z0] at q1
  rw [List.nil_append, cd_all, List.filter_filter] at q2
  refine ⟨w1, ?_, ?_, same_tr (same_f (by decide)) q3⟩
  · simp only [z71_0, z71_1, z71_2, z71_5, z71_6, z71_8, z71_10, z71_13, z71_14, z71_16, z71_18, z71_21, z71_22, z71_26, z71_28, z71_31, z71_32, z71_34, z71_35, z71_36, z71_38, z71_39, z71_40, z71_41, z71_43, z71_44, z71_45, z71_48, z71_51, z71_54, z71_57, z71_60, z71_63, z71_66, Option.bind_some, Option.toList_some, Option.toList_none, List.cons_append, List.nil_append, sc_i, sc_r, sc_l, sc_u, sc_s, List.length_nil, List.length_cons, Nat.reduceAdd, Nat.reduceLeDiff, Nat.zero_le, le4_0, le4_1, le4_2, le4_3, rz0, rz1, rzt, eq_self, fo_f, fo_a, fo_j, co_f, co_a, co_j, ao_f, ao_a, ao_j, zo_f, zo_a, zo_j, jo_f, jo_a, jo_j, al_f, al_a, al_j, fg_a, fg_j, ag_f, ag_j, jg_f, jg_a, fk_f, fk_a, fk_j, fi_a, fi_j, oc27 h0, of27_0 h0, og27_0 h0, of27_1 h0, og27_1 h0, of27_2 h0, og27_2 h0, ok27_2 h0, of27_3 h0, og27_3 h0, ok27_3 h0, of27_4 h0, og27_4 h0, ok27_4 h0, q1]
  · have ee : fitL A B C c 0 800 = (List.range' 0 800).filter (fun a => okL A B C a c 0 && dig a) := by
      unfold fitL
      congr 1
      funext x
      exact Bool.and_comm _ _
    rw [ee]
    exact q2
