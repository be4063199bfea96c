/-! sentences, how many: the class's call -/
def cN2 (i n k : Nat) : Nat := ((cIO i (n - 1) k).1 + (cIO i (n - 1) k).2) % 1000007
theorem x_calL {X : Scr} {i n k : Nat} {x : Int32} (hi : i ≤ 10) (hn : n ≤ 30) (hk : k < 31) : ∀ (c s : Nat), s + 1 + c = n → ∀ w : AW, EN w i s 31 → ∃ w', Z X 62 66 [.ref 30, .int x, .int (nI n), .int (nI k), .int (nI i), .int (nI (10 - i)), .int (nI (s + 2))] [] w = some (some (.int (nI (cN2 i n k))), w') ∧ OK w' ∧ same w w' := by
  intro c
  induction c with
  | zero =>
    intro s hs w en
    obtain ⟨h0, hen⟩ := en
    have e : (nI (s + 2) > nI n) = (n < s + 2) := gtN (by omega) (by omega)
    have e' : n < s + 2 := by omega
    obtain ⟨q1, q2⟩ := hen k hk
    rw [if_pos hk] at q1 q2
    obtain ⟨l1, l2⟩ := cIO_lt hi s k
    have r1 := pk_md (a := (cIO i s k).1 + (cIO i s k).2) (by omega)
    have hr : ((cIO i s k).1 + (cIO i s k).2) % 1000007 = cN2 i n k := by
      unfold cN2
      rw [show n - 1 = s by omega]
    rw [hr] at r1
    have n7 : ¬ (1000007 : Int32) = 0 := by decide
    refine ⟨w, ?_, h0, same_rf⟩
    rw [z62_66]
    simp only [z62_0, z62_1, z62_4, z62_5, z62_6, z62_7, z62_8, z62_10, z62_13, z62_16, z62_17, z62_18, z62_19, z62_22, z62_24, z62_26, z62_28, z62_29, z62_31, z62_32, z62_35, z62_36, z62_39, z62_40, z62_43, z62_44, z62_47, z62_48, z62_51, z62_52, z62_54, z62_55, z62_56, z62_59, z62_60, z62_62, z62_63, z62_64, z62_68, z62_69, z62_72, z62_73, z62_75, z62_77, z62_80, z62_83, z62_86, z62_87, z62_90, z62_91, z62_92, z62_93, z62_96, z62_97, z62_98, z62_99, z62_101, z62_102, Option.bind_some, Option.toList_some, Option.toList_none, List.cons_append, List.nil_append, sc_i, sc_r, sc_l, sc_u, sc_s, List.length_nil, List.length_cons, Nat.reduceAdd, Nat.reduceLeDiff, Nat.zero_le, le4_0, le4_1, le4_2, le4_3, rz0, rz1, rzt, eq_self, fo_f, fo_a, fo_j, co_f, co_a, co_j, ao_f, ao_a, ao_j, zo_f, zo_a, zo_j, jo_f, jo_a, jo_j, al_f, al_a, al_j, fg_a, fg_j, ag_f, ag_j, jg_f, jg_a, fk_f, fk_a, fk_j, fi_a, fi_j, tI_0, tI_n0, if_true, if_false, ne_eq, not_true_eq_false, not_false_eq_true, and_self, Bool.false_eq_true, e, e', oc30 h0, of30_0 h0, og30_0 h0, of30_1 h0, og30_1 h0, of30_2 h0, og30_2 h0, of30_3 h0, og30_3 h0, oa31 h0, ol31 h0, oa32 h0, ol32 h0, b31 hk, c31 hk, q1, q2, nI_add, n7, r1]
  | succ c ih =>
    intro s hs w en
    have h0 := en.1
    have e : (nI (s + 2) > nI n) = (n < s + 2) := gtN (by omega) (by omega)
    have e' : ¬ n < s + 2 := by omega
    obtain ⟨w1, p1, p2, p3⟩ := x_add (X := X) hi en
    obtain ⟨w2, r1, r2, r3⟩ := ih (s + 1) (by omega) w1 p2
    refine ⟨w2, ?_, r2, same_tr p3 r3⟩
    rw [← r1, z62_66]
    have hnx : nI (s + 2) + 1 = nI (s + 1 + 2) := by rw [nI_1]
    simp only [z62_68, z62_69, z62_72, z62_73, z62_75, z62_77, z62_80, z62_83, Option.bind_some, Option.toList_some, Option.toList_none, List.cons_append, List.nil_append, sc_i, sc_r, sc_l, sc_u, sc_s, List.length_nil, List.length_cons, Nat.reduceAdd, Nat.reduceLeDiff, Nat.zero_le, le4_0, le4_1, le4_2, le4_3, rz0, rz1, rzt, eq_self, fo_f, fo_a, fo_j, co_f, co_a, co_j, ao_f, ao_a, ao_j, zo_f, zo_a, zo_j, jo_f, jo_a, jo_j, al_f, al_a, al_j, fg_a, fg_j, ag_f, ag_j, jg_f, jg_a, fk_f, fk_a, fk_j, fi_a, fi_j, tI_0, tI_n0, if_true, if_false, ne_eq, not_true_eq_false, not_false_eq_true, and_self, Bool.false_eq_true, e, e', oc30 h0, of30_0 h0, og30_0 h0, of30_1 h0, og30_1 h0, of30_2 h0, og30_2 h0, of30_3 h0, og30_3 h0, p1, hnx]
theorem x_countAll {X : Scr} {w : AW} {i n k : Nat} {x : Int32} (h0 : OK w) (hx : bcF x = nI i) (hi : i ≤ 10) (hn : n ≤ 30) (hk : k ≤ n) : ∃ w', Z X 62 0 [.ref 30, .int x, .int (nI n), .int (nI k), uns, uns, uns] [] w = some (some (.int (nI (if n = 0 then 1 else cN2 i n k))), w') ∧ OK w' ∧ same w w' := by
  by_cases hn0 : n = 0
  · subst hn0
    refine ⟨w, ?_, h0, same_rf⟩
    have z0 : nI 0 = 0 := rfl
    have z1 : nI 1 = 1 := rfl
    simp only [z62_0, z62_1, z62_4, z62_5, z62_6, z62_7, z62_8, z62_10, z62_13, z62_16, z62_17, z62_18, z62_19, z62_22, z62_24, z62_26, z62_28, z62_29, z62_31, z62_32, z62_35, z62_36, z62_39, z62_40, z62_43, z62_44, z62_47, z62_48, z62_51, z62_52, z62_54, z62_55, z62_56, z62_59, z62_60, z62_62, z62_63, z62_64, z62_68, z62_69, z62_72, z62_73, z62_75, z62_77, z62_80, z62_83, z62_86, z62_87, z62_90, z62_91, z62_92, z62_93, z62_96, z62_97, z62_98, z62_99, z62_101, z62_102, Option.bind_some, Option.toList_some, Option.toList_none, List.cons_append, List.nil_append, sc_i, sc_r, sc_l, sc_u, sc_s, List.length_nil, List.length_cons, Nat.reduceAdd, Nat.reduceLeDiff, Nat.zero_le, le4_0, le4_1, le4_2, le4_3, rz0, rz1, rzt, eq_self, tI_0, tI_n0, if_true, if_false, ne_eq, not_true_eq_false, not_false_eq_true, and_self, Bool.false_eq_true, z0, z1]
  · have e0 : ¬ nI n = 0 := ne_nI (by omega) (by omega)
    have hk30 : 0 ≤ nI k ∧ nI k ≤ 30 := ⟨nI_pos' (by omega), by rw [show (30 : Int32) = nI 30 from rfl]; exact nI_le (by omega) (by decide)⟩
    obtain ⟨g1, p1, p2⟩ := x_fill (X := X) (w := w) (a := 31) (n := 31) (v := 0) (oa31 h0) (arr_of_aok (oa31 h0)) (ol31 h0) (by decide)
    have ok1 : OK (aset w 31 g1) := ok_a h0
    obtain ⟨g2, q1, q2⟩ := x_fill (X := X) (w := aset w 31 g1) (a := 32) (n := 31) (v := 0) (oa32 ok1) (arr_of_aok (oa32 ok1)) (ol32 ok1) (by decide)
    have ok2 : OK (aset (aset w 31 g1) 32 g2) := ok_a ok1
    have en : EN (aset (aset (aset (aset w 31 g1) 32 g2) 31 (upd g1 1 (nI i))) 32 (upd g2 0 (nI (10 - i)))) i 0 31 := by
      refine ⟨ok_a (ok_a ok2), fun j hj => ?_⟩
      rw [if_pos hj, if_pos hj]
      simp only [fo_f, fo_a, fo_j, co_f, co_a, co_j, ao_f, ao_a, ao_j, zo_f, zo_a, zo_j, jo_f, jo_a, jo_j, al_f, al_a, al_j, fg_a, fg_j, ag_f, ag_j, jg_f, jg_a, fk_f, fk_a, fk_j, fi_a, fi_j, ag_s, ag_z, ag_n, fi_s, fi_n, fg_s, fg_n, jg_s, jg_n, Nat.reduceEqDiff, not_false_eq_true, and_false, false_and, true_and, and_true, and_self, oa31 h0, ol31 h0, oa32 h0, ol32 h0, updI]
      refine ⟨?_, ?_⟩
      · show _ = nI (if j = 1 then i else 0)
        by_cases e : j = 1
        · rw [if_pos e, if_pos e]
        · rw [if_neg e, if_neg e, p2 j hj]; rfl
      · show _ = nI (if j = 0 then 10 - i else 0)
        by_cases e : j = 0
        · rw [if_pos e, if_pos e]
        · rw [if_neg e, if_neg e, q2 j hj]; rfl
    obtain ⟨w2, r1, r2, r3⟩ := x_calL (X := X) (k := k) (x := x) hi hn (by omega) (n - 1) 0 (by omega) _ en
    refine ⟨w2, ?_, r2, same_tr (same_tr (same_tr (same_tr (same_a (by decide)) (same_a (by decide))) (same_a (by decide))) (same_a (by decide))) r3⟩
    have es : (10 : Int32) - nI i = nI (10 - i) := pk_sub (a := 10) hi
    have z2 : nI (0 + 2) = 2 := rfl
    rw [z2] at r1
    have b1 : inB 1 31 = true := b31 (j := 1) (by decide)
    have b0 : inB 0 31 = true := b31 (j := 0) (by decide)
    have c1 : (1 : Int32).toNatClampNeg = 1 := rfl
    have c0 : (0 : Int32).toNatClampNeg = 0 := rfl
    rw [if_neg hn0]
    simp only [z62_0, z62_1, z62_4, z62_5, z62_6, z62_7, z62_8, z62_10, z62_13, z62_16, z62_17, z62_18, z62_19, z62_22, z62_24, z62_26, z62_28, z62_29, z62_31, z62_32, z62_35, z62_36, z62_39, z62_40, z62_43, z62_44, z62_47, z62_48, z62_51, z62_52, z62_54, z62_55, z62_56, z62_59, z62_60, z62_62, z62_63, z62_64, z62_68, z62_69, z62_72, z62_73, z62_75, z62_77, z62_80, z62_83, z62_86, z62_87, z62_90, z62_91, z62_92, z62_93, z62_96, z62_97, z62_98, z62_99, z62_101, z62_102, Option.bind_some, Option.toList_some, Option.toList_none, List.cons_append, List.nil_append, sc_i, sc_r, sc_l, sc_u, sc_s, List.length_nil, List.length_cons, Nat.reduceAdd, Nat.reduceLeDiff, Nat.zero_le, le4_0, le4_1, le4_2, le4_3, rz0, rz1, rzt, eq_self, fo_f, fo_a, fo_j, co_f, co_a, co_j, ao_f, ao_a, ao_j, zo_f, zo_a, zo_j, jo_f, jo_a, jo_j, al_f, al_a, al_j, fg_a, fg_j, ag_f, ag_j, jg_f, jg_a, fk_f, fk_a, fk_j, fi_a, fi_j, ag_s, ag_z, ag_n, fi_s, fi_n, fg_s, fg_n, jg_s, jg_n, Nat.reduceEqDiff, not_false_eq_true, and_false, false_and, true_and, and_true, and_self, tI_0, tI_n0, if_true, if_false, ne_eq, not_true_eq_false, not_false_eq_true, and_self, Bool.false_eq_true, e0, x_isIn, hk30, x_bitc, hx, es, oc30 h0, of30_0 h0, og30_0 h0, of30_1 h0, og30_1 h0, of30_2 h0, og30_2 h0, of30_3 h0, og30_3 h0, oa31 h0, ol31 h0, oa32 h0, ol32 h0, p1, q1, b1, b0, c1, c0, r1]
/-! the reference: ways in cells 82 and 83, two to a number -/
def UW (g : Nat → Int64) (i s : Nat) : Prop := ∀ j, j < 31 → g (2 * j) = lN (cIO i s j).2 ∧ g (2 * j + 1) = lN (cIO i s j).1
