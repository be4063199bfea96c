/-! sentences, how many: the class -/
def cIO (i : Nat) : Nat → Nat → Nat × Nat
  | 0, k => (if k = 1 then i else 0, if k = 0 then 10 - i else 0)
  | s + 1, k => ((if k = 0 then 0 else (cIO i s (k - 1)).1 * (i - 1) + (cIO i s (k - 1)).2 * i) % 1000007, ((cIO i s k).1 * (10 - i) + (cIO i s k).2 * (10 - i - 1)) % 1000007)
theorem cIO_lt {i : Nat} (hi : i ≤ 10) : ∀ s k, (cIO i s k).1 < 1000007 ∧ (cIO i s k).2 < 1000007 := by
  intro s
  cases s with
  | zero =>
    intro k
    refine ⟨?_, ?_⟩
    · show (if k = 1 then i else 0) < 1000007
      by_cases e : k = 1
      · rw [if_pos e]; omega
      · rw [if_neg e]; omega
    · show (if k = 0 then 10 - i else 0) < 1000007
      by_cases e : k = 0
      · rw [if_pos e]; omega
      · rw [if_neg e]; omega
  | succ s => intro k; exact ⟨Nat.mod_lt _ (by decide), Nat.mod_lt _ (by decide)⟩
theorem max0 : ∀ o, o < 11 → (if (0 : Int32) < nI o - 1 then nI o - 1 else 0) = nI (o - 1) := by decide
theorem bc_n : ∀ m, m < 1024 → bcF (nI m) = nI (bcF (nI m)).toNatClampNeg ∧ (bcF (nI m)).toNatClampNeg ≤ 10 := by decide +kernel
theorem b31 {j : Nat} (hj : j < 31) : inB (nI j) 31 = true := inB_nI hj (by decide)
theorem c31 {j : Nat} (hj : j < 31) : (nI j).toNatClampNeg = j := nI_clamp (by omega)
/-- the class's places: those below c as they were, the others one letter on -/
def EN (w : AW) (i s c : Nat) : Prop := OK w ∧ ∀ j, j < 31 → aget w 31 j = nI (if j < c then (cIO i s j).1 else (cIO i (s + 1) j).1) ∧ aget w 32 j = nI (if j < c then (cIO i s j).2 else (cIO i (s + 1) j).2)
theorem pk_md {a : Nat} (h : a < 2 ^ 31) : nI a - nI a / 1000007 * 1000007 = nI (a % 1000007) := pk_rem (d := 1000007) h (by decide) (by decide)
theorem mul_b {a b : Nat} (ha : a < 1000007) (hb : b ≤ 10) : a * b ≤ 1000007 * 10 := Nat.mul_le_mul (by omega) hb
theorem x_addL {X : Scr} {i s : Nat} (hi : i ≤ 10) : ∀ (c : Nat), c ≤ 31 → ∀ (w : AW) (v4 v5 : Value), isSec v4 = false → isSec v5 = false → EN w i s c → ∃ w', Z X 63 3 [.ref 30, .int (nI i), .int (nI (10 - i)), .int (nI c + -1), v4, v5] [] w = some (none, w') ∧ EN w' i s 0 ∧ same w w' := by
  intro c
  induction c with
  | zero =>
    intro hc w v4 v5 h4 h5 en
    have e : nI 0 + -1 < 0 := by decide
    refine ⟨w, ?_, en, same_rf⟩
    rw [z63_3]
    simp only [z63_4, z63_97, Option.bind_some, Option.toList_some, Option.toList_none, List.cons_append, List.nil_append, sc_i, sc_r, sc_l, sc_u, sc_s, List.length_nil, List.length_cons, Nat.reduceAdd, Nat.reduceLeDiff, Nat.zero_le, le4_0, le4_1, le4_2, le4_3, rz0, rz1, rzt, eq_self, tI_0, tI_n0, if_true, if_false, ne_eq, not_true_eq_false, not_false_eq_true, and_self, Bool.false_eq_true, e]
  | succ c ih =>
    intro hc w v4 v5 h4 h5 en
    obtain ⟨h0, hen⟩ := en
    have hc31 : c < 31 := by omega
    have e0 : ¬ nI c < 0 := nI_pos (by omega)
    obtain ⟨q1, q2⟩ := hen c hc31
    rw [if_pos (by omega)] at q1 q2
    obtain ⟨l1, l2⟩ := cIO_lt hi s c
    have m1 := mul_b l1 (show 10 - i ≤ 10 by omega)
    have m2 := mul_b l2 (show 10 - i - 1 ≤ 10 by omega)
    have r1 := pk_md (a := (cIO i s c).1 * (10 - i) + (cIO i s c).2 * (10 - i - 1)) (by omega)
    have hO : ((cIO i s c).1 * (10 - i) + (cIO i s c).2 * (10 - i - 1)) % 1000007 = (cIO i (s + 1) c).2 := rfl
    have n7 : ¬ (1000007 : Int32) = 0 := by decide
    rw [hO] at r1
    have fin : ∀ w1 : AW, w1 = aset (aset w 32 (upd (aget w 32) c (nI (cIO i (s + 1) c).2))) 31 (upd (aget w 31) c (nI (cIO i (s + 1) c).1)) → EN w1 i s c ∧ same w w1 := by
      intro w1 hw1
      subst hw1
      refine ⟨⟨ok_a (ok_a h0), fun j hj => ?_⟩, same_tr (same_a (by decide)) (same_a (by decide))⟩
      simp only [fo_f, fo_a, fo_j, co_f, co_a, co_j, ao_f, ao_a, ao_j, zo_f, zo_a, zo_j, jo_f, jo_a, jo_j, al_f, al_a, al_j, fg_a, fg_j, ag_f, ag_j, jg_f, jg_a, fk_f, fk_a, fk_j, fi_a, fi_j, ag_s, ag_z, ag_n, fi_s, fi_n, fg_s, fg_n, jg_s, jg_n, Nat.reduceEqDiff, not_false_eq_true, and_false, false_and, true_and, and_true, and_self, oa31 h0, ol31 h0, oa32 h0, ol32 h0, updI]
      by_cases e : j = c
      · subst e
        rw [if_pos rfl, if_pos rfl, if_neg (by omega), if_neg (by omega)]
        exact ⟨rfl, rfl⟩
      · obtain ⟨p1, p2⟩ := hen j hj
        rw [if_neg e, if_neg e, p1, p2]
        by_cases e2 : j < c
        · rw [if_pos e2, if_pos e2, if_pos (by omega), if_pos (by omega)]
          exact ⟨rfl, rfl⟩
        · rw [if_neg e2, if_neg e2, if_neg (by omega), if_neg (by omega)]
          exact ⟨rfl, rfl⟩
    obtain ⟨f1, f2⟩ := fin _ rfl
    by_cases e1 : c = 0
    · subst e1
      have z0 : nI 0 = 0 := rfl
      have r2 : (0 : Int32) - 0 / 1000007 * 1000007 = nI (cIO i (s + 1) 0).1 := by
        show (0 : Int32) - 0 / 1000007 * 1000007 = nI (0 % 1000007)
        rfl
      obtain ⟨w', t1, t2, t3⟩ := ih (by omega) _ (.int (nI ((cIO i s 0).1 * (10 - i) + (cIO i s 0).2 * (10 - i - 1)))) (.int 0) sc_i sc_i f1
      refine ⟨w', ?_, t2, same_tr f2 t3⟩
      have b0 := b31 hc31
      have c0 := c31 hc31
      rw [z0] at b0 c0 t1
      rw [← t1, nI_m1, z0, z63_3]
      have e00 : ¬ (0 : Int32) < 0 := by decide
      simp only [z63_0, z63_2, z63_4, z63_7, z63_8, z63_11, z63_12, z63_13, z63_14, z63_15, z63_16, z63_19, z63_20, z63_21, z63_22, z63_23, z63_24, z63_25, z63_28, z63_29, z63_30, z63_32, z63_33, z63_36, z63_37, z63_40, z63_41, z63_44, z63_45, z63_46, z63_47, z63_48, z63_49, z63_50, z63_51, z63_52, z63_55, z63_56, z63_57, z63_60, z63_61, z63_62, z63_63, z63_64, z63_65, z63_66, z63_67, z63_69, z63_70, z63_73, z63_74, z63_76, z63_78, z63_79, z63_80, z63_81, z63_84, z63_85, z63_87, z63_89, z63_90, z63_91, z63_94, z63_97, Option.bind_some, Option.toList_some, Option.toList_none, List.cons_append, List.nil_append, sc_i, sc_r, sc_l, sc_u, sc_s, List.length_nil, List.length_cons, Nat.reduceAdd, Nat.reduceLeDiff, Nat.zero_le, le4_0, le4_1, le4_2, le4_3, rz0, rz1, rzt, eq_self, fo_f, fo_a, fo_j, co_f, co_a, co_j, ao_f, ao_a, ao_j, zo_f, zo_a, zo_j, jo_f, jo_a, jo_j, al_f, al_a, al_j, fg_a, fg_j, ag_f, ag_j, jg_f, jg_a, fk_f, fk_a, fk_j, fi_a, fi_j, ag_s, ag_z, ag_n, fi_s, fi_n, fg_s, fg_n, jg_s, jg_n, Nat.reduceEqDiff, not_false_eq_true, and_false, false_and, true_and, and_true, and_self, tI_0, tI_n0, if_true, if_false, ne_eq, not_true_eq_false, not_false_eq_true, and_self, Bool.false_eq_true, e00, oc30 h0, of30_0 h0, og30_0 h0, of30_1 h0, og30_1 h0, of30_2 h0, og30_2 h0, of30_3 h0, og30_3 h0, oa31 h0, ol31 h0, oa32 h0, ol32 h0, b0, c0, q1, q2, h4, h5, max0 (10 - i) (by omega), pk_mul, nI_add, n7, r1, r2]
    · have e2 : ¬ nI c = 0 := ne_nI (by omega) (by omega)
      have es : nI c - 1 = nI (c - 1) := pk_sub (b := 1) (by omega)
      obtain ⟨p1, p2⟩ := hen (c - 1) (by omega)
      rw [if_pos (by omega)] at p1 p2
      obtain ⟨k1, k2⟩ := cIO_lt hi s (c - 1)
      have m3 := mul_b k1 (show i - 1 ≤ 10 by omega)
      have m4 := mul_b k2 hi
      have r2 := pk_md (a := (cIO i s (c - 1)).1 * (i - 1) + (cIO i s (c - 1)).2 * i) (by omega)
      have hI : ((cIO i s (c - 1)).1 * (i - 1) + (cIO i s (c - 1)).2 * i) % 1000007 = (cIO i (s + 1) c).1 := by
        show _ = (if c = 0 then 0 else (cIO i s (c - 1)).1 * (i - 1) + (cIO i s (c - 1)).2 * i) % 1000007
        rw [if_neg e1]
      rw [hI] at r2
      obtain ⟨w', t1, t2, t3⟩ := ih (by omega) _ (.int (nI ((cIO i s c).1 * (10 - i) + (cIO i s c).2 * (10 - i - 1)))) (.int (nI ((cIO i s (c - 1)).1 * (i - 1) + (cIO i s (c - 1)).2 * i))) sc_i sc_i f1
      refine ⟨w', ?_, t2, same_tr f2 t3⟩
      rw [← t1, nI_m1, z63_3]
      simp only [z63_0, z63_2, z63_4, z63_7, z63_8, z63_11, z63_12, z63_13, z63_14, z63_15, z63_16, z63_19, z63_20, z63_21, z63_22, z63_23, z63_24, z63_25, z63_28, z63_29, z63_30, z63_32, z63_33, z63_36, z63_37, z63_40, z63_41, z63_44, z63_45, z63_46, z63_47, z63_48, z63_49, z63_50, z63_51, z63_52, z63_55, z63_56, z63_57, z63_60, z63_61, z63_62, z63_63, z63_64, z63_65, z63_66, z63_67, z63_69, z63_70, z63_73, z63_74, z63_76, z63_78, z63_79, z63_80, z63_81, z63_84, z63_85, z63_87, z63_89, z63_90, z63_91, z63_94, z63_97, Option.bind_some, Option.toList_some, Option.toList_none, List.cons_append, List.nil_append, sc_i, sc_r, sc_l, sc_u, sc_s, List.length_nil, List.length_cons, Nat.reduceAdd, Nat.reduceLeDiff, Nat.zero_le, le4_0, le4_1, le4_2, le4_3, rz0, rz1, rzt, eq_self, fo_f, fo_a, fo_j, co_f, co_a, co_j, ao_f, ao_a, ao_j, zo_f, zo_a, zo_j, jo_f, jo_a, jo_j, al_f, al_a, al_j, fg_a, fg_j, ag_f, ag_j, jg_f, jg_a, fk_f, fk_a, fk_j, fi_a, fi_j, ag_s, ag_z, ag_n, fi_s, fi_n, fg_s, fg_n, jg_s, jg_n, Nat.reduceEqDiff, not_false_eq_true, and_false, false_and, true_and, and_true, and_self, tI_0, tI_n0, if_true, if_false, ne_eq, not_true_eq_false, not_false_eq_true, and_self, Bool.false_eq_true, e0, e2, es, oc30 h0, of30_0 h0, og30_0 h0, of30_1 h0, og30_1 h0, of30_2 h0, og30_2 h0, of30_3 h0, og30_3 h0, oa31 h0, ol31 h0, oa32 h0, ol32 h0, b31 hc31, c31 hc31, b31 (show c - 1 < 31 by omega), c31 (show c - 1 < 31 by omega), q1, q2, p1, p2, h4, h5, max0 (10 - i) (by omega), max0 i (by omega), pk_mul, nI_add, n7, r1, r2]
theorem x_add {X : Scr} {w : AW} {i s : Nat} (hi : i ≤ 10) (en : EN w i s 31) : ∃ w', Z X 63 0 [.ref 30, .int (nI i), .int (nI (10 - i)), uns, uns, uns] [] w = some (none, w') ∧ EN w' i (s + 1) 31 ∧ same w w' := by
  obtain ⟨w', t1, t2, t3⟩ := x_addL (X := X) hi 31 (Nat.le_refl 31) w uns uns sc_u sc_u en
  rw [show nI 31 + -1 = 30 from rfl] at t1
  refine ⟨w', ?_, ⟨t2.1, fun j hj => ?_⟩, t3⟩
  · simp only [z63_0, z63_2, z63_4, z63_7, z63_8, z63_11, z63_12, z63_13, z63_14, z63_15, z63_16, z63_19, z63_20, z63_21, z63_22, z63_23, z63_24, z63_25, z63_28, z63_29, z63_30, z63_32, z63_33, z63_36, z63_37, z63_40, z63_41, z63_44, z63_45, z63_46, z63_47, z63_48, z63_49, z63_50, z63_51, z63_52, z63_55, z63_56, z63_57, z63_60, z63_61, z63_62, z63_63, z63_64, z63_65, z63_66, z63_67, z63_69, z63_70, z63_73, z63_74, z63_76, z63_78, z63_79, z63_80, z63_81, z63_84, z63_85, z63_87, z63_89, z63_90, z63_91, z63_94, z63_97, Option.bind_some, Option.toList_some, Option.toList_none, List.cons_append, List.nil_append, sc_i, sc_r, sc_l, sc_u, sc_s, List.length_nil, List.length_cons, Nat.reduceAdd, Nat.reduceLeDiff, Nat.zero_le, le4_0, le4_1, le4_2, le4_3, rz0, rz1, rzt, eq_self, t1]
  · have := t2.2 j hj
    rw [if_neg (Nat.not_lt_zero j), if_neg (Nat.not_lt_zero j)] at this
    rw [if_pos hj, if_pos hj]
    exact this
