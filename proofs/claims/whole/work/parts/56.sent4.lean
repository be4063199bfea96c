/-! sentences, how many: the reference's call -/
theorem pk_lmd {a : Nat} (h : a < 2 ^ 31) : lN a - lN a / 1000007 * 1000007 = lN (a % 1000007) := pk_lRem (b := 1000007) (by omega) (by decide) (by decide)
theorem l7 : ¬ (1000007 : Int64) = 0 := by decide
theorem x_om {X : Scr} {i s : Nat} {v1 v2 v4 v5 v6 v7 : Value} (hi : i ≤ 10) : ∀ (n t : Nat), t + n = 64 → ∀ w : AW, OK w → (∀ u, u < 64 → jget w 83 u = lN (GG i s 31 u)) → (∀ u, u < t → jget w 82 u = lN (GG i s 31 u % 1000007)) → ∃ w', Z X 144 114 [.ref 64, v1, v2, .int (nI t), v4, v5, v6, v7] [] w = some (none, w') ∧ OK w' ∧ (∀ u, u < 64 → jget w' 82 u = lN (GG i s 31 u % 1000007)) ∧ same w w' := by
  intro n
  induction n with
  | zero =>
    intro t ht w h0 hg hw
    have ht : t = 64 := ht
    subst ht
    have e : nI 64 ≥ 64 := by decide
    refine ⟨w, ?_, h0, hw, same_rf⟩
    rw [z144_114]
    simp only [z144_115, z144_117, z144_142, Option.bind_some, Option.toList_some, Option.toList_none, List.cons_append, List.nil_append, sc_i, sc_r, sc_l, sc_u, sc_s, List.length_nil, List.length_cons, Nat.reduceAdd, Nat.reduceLeDiff, Nat.zero_le, le4_0, le4_1, le4_2, le4_3, rz0, rz1, rzt, eq_self, tI_0, tI_n0, if_true, if_false, ne_eq, not_true_eq_false, not_false_eq_true, and_self, Bool.false_eq_true, e]
  | succ n ih =>
    intro t ht w h0 hg hw
    have e : (nI t ≥ 64) = (64 ≤ t) := geN (b := 64) (by omega) (by decide)
    have e' : ¬ 64 ≤ t := by omega
    have ht64 : t < 64 := by omega
    have hb := GG_b (i := i) (s := s) (k := 31) (t := t) hi
    have hr := pk_lmd (a := GG i s 31 t) (by omega)
    obtain ⟨w', r1, r2, r3, r4⟩ := ih (t + 1) (by omega) (jset w 82 (vp_updL (jget w 82) t (lN (GG i s 31 t % 1000007)))) (ok_j h0) (fun u hu => by rw [jg_n (by decide)]; exact hg u hu) (fun u hu => by
      rw [jg_s (oa82 h0), updJ]
      by_cases q : u = t
      · rw [if_pos q, q]
      · rw [if_neg q]; exact hw u (by omega))
    refine ⟨w', ?_, r2, r3, same_tr same_j r4⟩
    rw [← r1, z144_114]
    simp only [z144_115, z144_117, z144_120, z144_121, z144_124, z144_125, z144_126, z144_129, z144_130, z144_131, z144_134, z144_135, z144_136, z144_139, Option.bind_some, Option.toList_some, Option.toList_none, List.cons_append, List.nil_append, sc_i, sc_r, sc_l, sc_u, sc_s, List.length_nil, List.length_cons, Nat.reduceAdd, Nat.reduceLeDiff, Nat.zero_le, le4_0, le4_1, le4_2, le4_3, rz0, rz1, rzt, eq_self, fo_f, fo_a, fo_j, co_f, co_a, co_j, ao_f, ao_a, ao_j, zo_f, zo_a, zo_j, jo_f, jo_a, jo_j, al_f, al_a, al_j, fg_a, fg_j, ag_f, ag_j, jg_f, jg_a, fk_f, fk_a, fk_j, fi_a, fi_j, tI_0, tI_n0, if_true, if_false, ne_eq, not_true_eq_false, not_false_eq_true, and_self, Bool.false_eq_true, e, e', oc64 h0, of64_0 h0, og64_0 h0, ok64_0 h0, of64_1 h0, og64_1 h0, of64_2 h0, og64_2 h0, of64_3 h0, og64_3 h0, of64_4 h0, og64_4 h0, of64_5 h0, og64_5 h0, ok64_5 h0, of64_6 h0, og64_6 h0, ok64_6 h0, of64_7 h0, og64_7 h0, of64_8 h0, og64_8 h0, of64_9 h0, og64_9 h0, of64_10 h0, og64_10 h0, of64_11 h0, og64_11 h0, of64_12 h0, og64_12 h0, of64_13 h0, og64_13 h0, ok64_13 h0, of64_14 h0, og64_14 h0, of64_15 h0, og64_15 h0, ok64_15 h0, of64_16 h0, og64_16 h0, of64_17 h0, og64_17 h0, of64_18 h0, og64_18 h0, of64_19 h0, og64_19 h0, of64_20 h0, og64_20 h0, of64_21 h0, og64_21 h0, ok64_21 h0, of64_22 h0, og64_22 h0, of64_23 h0, og64_23 h0, ok64_23 h0, of64_24 h0, og64_24 h0, ok64_24 h0, of64_25 h0, og64_25 h0, ok64_25 h0, of64_26 h0, og64_26 h0, ok64_26 h0, of64_27 h0, og64_27 h0, ok64_27 h0, of64_28 h0, og64_28 h0, of64_29 h0, og64_29 h0, of64_30 h0, og64_30 h0, of64_31 h0, og64_31 h0, of64_32 h0, og64_32 h0, of64_33 h0, og64_33 h0, of64_34 h0, og64_34 h0, of64_35 h0, og64_35 h0, ok64_35 h0, of64_36 h0, og64_36 h0, ok64_36 h0, oa82 h0, ol82 h0, oa83 h0, ol83 h0, b64 ht64, c64 ht64, hg t ht64, l7, hr, nI_1]
theorem x_one {X : Scr} {w : AW} {i s : Nat} (hi : i ≤ 10) (h0 : OK w) (hu : UW (jget w 82) i s) : ∃ w', Z X 144 0 [.ref 64, .int (nI i), uns, uns, uns, uns, uns, uns] [] w = some (none, w') ∧ OK w' ∧ UW (jget w' 82) i (s + 1) ∧ same w w' := by
  obtain ⟨w1, a1, a2, a3, a4, a5⟩ := x_oz (X := X) (v1 := .int (nI i)) (v2 := .int (nI (10 - i))) (v4 := uns) (v5 := uns) (v6 := uns) (v7 := uns) 64 0 rfl w h0 (fun t ht => absurd ht (Nat.not_lt_zero t))
  have hg0 : ∀ t, t < 64 → jget w1 83 t = lN (GG i s 0 t) := fun t ht => by
    rw [a4 t ht]
    have : GG i s 0 t = 0 := by
      unfold GG
      by_cases q : t % 2 = 0
      · rw [if_pos q, if_neg (by omega)]
      · rw [if_neg q, if_neg (by omega)]
    rw [this]
    rfl
  obtain ⟨w2, c4, c5, c6, c7, b1, b2, b3, b4⟩ := x_ol (X := X) (s := s) (v1 := uns) hi 31 0 rfl w1 uns uns uns uns sc_u sc_u a2 (by rw [a3]; exact hu) hg0
  obtain ⟨w3, d1, d2, d3, d4⟩ := x_om (X := X) (i := i) (s := s) (v1 := .int (nI i)) (v2 := .int (nI (10 - i))) (v4 := c4) (v5 := c5) (v6 := c6) (v7 := c7) hi 64 0 rfl w2 b2 b3 (fun u hu => absurd hu (Nat.not_lt_zero u))
  have z0 : nI 0 = 0 := rfl
  rw [z0] at a1 b1 d1
  refine ⟨w3, ?_, d2, fun j hj => ⟨?_, ?_⟩, same_tr (same_tr a5 b4) d4⟩
  · have es : (10 : Int32) - nI i = nI (10 - i) := pk_sub (a := 10) hi
    simp only [z144_0, z144_2, z144_3, z144_4, z144_5, z144_6, z144_8, z144_10, z144_13, z144_14, z144_17, z144_18, z144_19, z144_20, z144_23, z144_26, z144_27, z144_29, z144_31, z144_34, z144_35, z144_38, z144_39, z144_40, z144_41, z144_42, z144_44, z144_45, z144_48, z144_49, z144_50, z144_51, z144_52, z144_53, z144_54, z144_56, z144_57, z144_60, z144_61, z144_62, z144_63, z144_64, z144_65, z144_67, z144_68, z144_69, z144_70, z144_71, z144_72, z144_74, z144_75, z144_76, z144_77, z144_78, z144_79, z144_80, z144_81, z144_84, z144_85, z144_86, z144_87, z144_88, z144_89, z144_90, z144_91, z144_93, z144_94, z144_95, z144_96, z144_98, z144_99, z144_100, z144_101, z144_102, z144_103, z144_104, z144_105, z144_106, z144_109, z144_112, z144_113, z144_115, z144_117, z144_120, z144_121, z144_124, z144_125, z144_126, z144_129, z144_130, z144_131, z144_134, z144_135, z144_136, z144_139, z144_142, Option.bind_some, Option.toList_some, Option.toList_none, List.cons_append, List.nil_append, sc_i, sc_r, sc_l, sc_u, sc_s, List.length_nil, List.length_cons, Nat.reduceAdd, Nat.reduceLeDiff, Nat.zero_le, le4_0, le4_1, le4_2, le4_3, rz0, rz1, rzt, eq_self, es, a1, b1, d1]
  · rw [d3 (2 * j) (by omega)]
    have : GG i s 31 (2 * j) = SO i s j := by
      unfold GG
      rw [if_pos (by omega), if_pos (by omega)]
      congr 1
      omega
    rw [this, SO_e]
  · rw [d3 (2 * j + 1) (by omega)]
    by_cases q : j = 0
    · subst q
      rfl
    · obtain ⟨m, rfl⟩ : ∃ m, j = m + 1 := ⟨j - 1, by omega⟩
      have : GG i s 31 (2 * (m + 1) + 1) = SN i s m := by
        unfold GG
        rw [if_neg (by omega), if_pos (by omega)]
        congr 1
        omega
      rw [this, SN_e]
theorem x_cz {X : Scr} {v1 v2 v3 : Value} : ∀ (n j : Nat), j + n = 64 → ∀ w : AW, OK w → (∀ t, t < j → jget w 82 t = 0) → ∃ w', Z X 143 3 [.ref 64, v1, v2, v3, .int (nI j)] [] w = Z X 143 24 [.ref 64, v1, v2, v3, .int (nI 64)] [] w' ∧ OK w' ∧ (∀ t, t < 64 → jget w' 82 t = 0) ∧ same w w' := by
  intro n
  induction n with
  | zero =>
    intro j hj w h0 hz
    have hj : j = 64 := hj
    subst hj
    have e : nI 64 ≥ 64 := by decide
    refine ⟨w, ?_, h0, hz, same_rf⟩
    rw [z143_3]
    simp only [z143_5, z143_7, Option.bind_some, Option.toList_some, Option.toList_none, List.cons_append, List.nil_append, sc_i, sc_r, sc_l, sc_u, sc_s, List.length_nil, List.length_cons, Nat.reduceAdd, Nat.reduceLeDiff, Nat.zero_le, le4_0, le4_1, le4_2, le4_3, rz0, rz1, rzt, eq_self, tI_0, tI_n0, if_true, if_false, ne_eq, not_true_eq_false, not_false_eq_true, and_self, Bool.false_eq_true, e]
  | succ n ih =>
    intro j hj w h0 hz
    have e : (nI j ≥ 64) = (64 ≤ j) := geN (b := 64) (by omega) (by decide)
    have e' : ¬ 64 ≤ j := by omega
    have hj64 : j < 64 := by omega
    obtain ⟨w', r1, r2, r4, r5⟩ := ih (j + 1) (by omega) (jset w 82 (vp_updL (jget w 82) j 0)) (ok_j h0) (fun t ht => by
      rw [jg_s (oa82 h0), updJ]
      by_cases q : t = j
      · rw [if_pos q]
      · rw [if_neg q]; exact hz t (by omega))
    refine ⟨w', ?_, r2, r4, same_tr same_j r5⟩
    rw [← r1, z143_3]
    simp only [z143_5, z143_7, z143_10, z143_11, z143_14, z143_16, z143_17, z143_18, z143_21, Option.bind_some, Option.toList_some, Option.toList_none, List.cons_append, List.nil_append, sc_i, sc_r, sc_l, sc_u, sc_s, List.length_nil, List.length_cons, Nat.reduceAdd, Nat.reduceLeDiff, Nat.zero_le, le4_0, le4_1, le4_2, le4_3, rz0, rz1, rzt, eq_self, fo_f, fo_a, fo_j, co_f, co_a, co_j, ao_f, ao_a, ao_j, zo_f, zo_a, zo_j, jo_f, jo_a, jo_j, al_f, al_a, al_j, fg_a, fg_j, ag_f, ag_j, jg_f, jg_a, fk_f, fk_a, fk_j, fi_a, fi_j, tI_0, tI_n0, if_true, if_false, ne_eq, not_true_eq_false, not_false_eq_true, and_self, Bool.false_eq_true, e, e', oc64 h0, of64_0 h0, og64_0 h0, ok64_0 h0, of64_1 h0, og64_1 h0, of64_2 h0, og64_2 h0, of64_3 h0, og64_3 h0, of64_4 h0, og64_4 h0, of64_5 h0, og64_5 h0, ok64_5 h0, of64_6 h0, og64_6 h0, ok64_6 h0, of64_7 h0, og64_7 h0, of64_8 h0, og64_8 h0, of64_9 h0, og64_9 h0, of64_10 h0, og64_10 h0, of64_11 h0, og64_11 h0, of64_12 h0, og64_12 h0, of64_13 h0, og64_13 h0, ok64_13 h0, of64_14 h0, og64_14 h0, of64_15 h0, og64_15 h0, ok64_15 h0, of64_16 h0, og64_16 h0, of64_17 h0, og64_17 h0, of64_18 h0, og64_18 h0, of64_19 h0, og64_19 h0, of64_20 h0, og64_20 h0, of64_21 h0, og64_21 h0, ok64_21 h0, of64_22 h0, og64_22 h0, of64_23 h0, og64_23 h0, ok64_23 h0, of64_24 h0, og64_24 h0, ok64_24 h0, of64_25 h0, og64_25 h0, ok64_25 h0, of64_26 h0, og64_26 h0, ok64_26 h0, of64_27 h0, og64_27 h0, ok64_27 h0, of64_28 h0, og64_28 h0, of64_29 h0, og64_29 h0, of64_30 h0, og64_30 h0, of64_31 h0, og64_31 h0, of64_32 h0, og64_32 h0, of64_33 h0, og64_33 h0, of64_34 h0, og64_34 h0, of64_35 h0, og64_35 h0, ok64_35 h0, of64_36 h0, og64_36 h0, ok64_36 h0, oa82 h0, ol82 h0, b64 hj64, c64 hj64, nI_1]
theorem x_coL {X : Scr} {i n k : Nat} (hi : i ≤ 10) (hn : n ≤ 30) (hk : k < 31) (hn1 : 1 ≤ n) : ∀ (c s : Nat), s + 1 + c = n → ∀ w : AW, OK w → UW (jget w 82) i s → ∃ w', Z X 143 46 [.ref 64, .int (nI i), .int (nI n), .int (nI k), .int (nI (s + 1))] [] w = some (some (.int (nI (cN2 i n k))), w') ∧ OK w' ∧ same w w' := by
  intro c
  induction c with
  | zero =>
    intro s hs w h0 hu
    have e : (nI (s + 1) ≥ nI n) = (n ≤ s + 1) := geN (by omega) (by omega)
    have e' : n ≤ s + 1 := by omega
    have n0 : ¬ nI n = 0 := ne_nI hn1 (by omega)
    obtain ⟨u1, u2⟩ := hu k hk
    obtain ⟨l1, l2⟩ := cIO_lt hi s k
    have p1 : (2 : Int32) * nI k = nI (2 * k) := by rw [show (2 : Int32) = nI 2 from rfl, pk_mul]
    have hr := pk_lmd (a := (cIO i s k).2 + (cIO i s k).1) (by omega)
    have hc : ((cIO i s k).2 + (cIO i s k).1) % 1000007 = cN2 i n k := by
      unfold cN2
      rw [show n - 1 = s by omega, Nat.add_comm]
    rw [hc] at hr
    refine ⟨w, ?_, h0, same_rf⟩
    rw [z143_46]
    simp only [z143_0, z143_1, z143_5, z143_7, z143_10, z143_11, z143_14, z143_16, z143_17, z143_18, z143_21, z143_24, z143_25, z143_28, z143_29, z143_31, z143_32, z143_33, z143_34, z143_35, z143_36, z143_39, z143_40, z143_41, z143_42, z143_43, z143_44, z143_48, z143_49, z143_52, z143_53, z143_54, z143_57, z143_60, z143_63, z143_64, z143_67, z143_68, z143_71, z143_72, z143_75, z143_76, z143_79, z143_80, z143_83, z143_84, z143_85, z143_86, z143_87, z143_88, z143_91, z143_92, z143_93, z143_94, z143_95, z143_96, z143_97, z143_98, z143_101, z143_102, z143_103, Option.bind_some, Option.toList_some, Option.toList_none, List.cons_append, List.nil_append, sc_i, sc_r, sc_l, sc_u, sc_s, List.length_nil, List.length_cons, Nat.reduceAdd, Nat.reduceLeDiff, Nat.zero_le, le4_0, le4_1, le4_2, le4_3, rz0, rz1, rzt, eq_self, fo_f, fo_a, fo_j, co_f, co_a, co_j, ao_f, ao_a, ao_j, zo_f, zo_a, zo_j, jo_f, jo_a, jo_j, al_f, al_a, al_j, fg_a, fg_j, ag_f, ag_j, jg_f, jg_a, fk_f, fk_a, fk_j, fi_a, fi_j, tI_0, tI_n0, if_true, if_false, ne_eq, not_true_eq_false, not_false_eq_true, and_self, Bool.false_eq_true, e, e', n0, oc64 h0, of64_0 h0, og64_0 h0, ok64_0 h0, of64_1 h0, og64_1 h0, of64_2 h0, og64_2 h0, of64_3 h0, og64_3 h0, of64_4 h0, og64_4 h0, of64_5 h0, og64_5 h0, ok64_5 h0, of64_6 h0, og64_6 h0, ok64_6 h0, of64_7 h0, og64_7 h0, of64_8 h0, og64_8 h0, of64_9 h0, og64_9 h0, of64_10 h0, og64_10 h0, of64_11 h0, og64_11 h0, of64_12 h0, og64_12 h0, of64_13 h0, og64_13 h0, ok64_13 h0, of64_14 h0, og64_14 h0, of64_15 h0, og64_15 h0, ok64_15 h0, of64_16 h0, og64_16 h0, of64_17 h0, og64_17 h0, of64_18 h0, og64_18 h0, of64_19 h0, og64_19 h0, of64_20 h0, og64_20 h0, of64_21 h0, og64_21 h0, ok64_21 h0, of64_22 h0, og64_22 h0, of64_23 h0, og64_23 h0, ok64_23 h0, of64_24 h0, og64_24 h0, ok64_24 h0, of64_25 h0, og64_25 h0, ok64_25 h0, of64_26 h0, og64_26 h0, ok64_26 h0, of64_27 h0, og64_27 h0, ok64_27 h0, of64_28 h0, og64_28 h0, of64_29 h0, og64_29 h0, of64_30 h0, og64_30 h0, of64_31 h0, og64_31 h0, of64_32 h0, og64_32 h0, of64_33 h0, og64_33 h0, of64_34 h0, og64_34 h0, of64_35 h0, og64_35 h0, ok64_35 h0, of64_36 h0, og64_36 h0, ok64_36 h0, oa82 h0, ol82 h0, p1, nI_1, b64 (show 2 * k < 64 by omega), c64 (show 2 * k < 64 by omega), b64 (show 2 * k + 1 < 64 by omega), c64 (show 2 * k + 1 < 64 by omega), u1, u2, lN_add, l7, hr, lN_i]
  | succ c ih =>
    intro s hs w h0 hu
    have e : (nI (s + 1) ≥ nI n) = (n ≤ s + 1) := geN (by omega) (by omega)
    have e' : ¬ n ≤ s + 1 := by omega
    obtain ⟨w1, p1, p2, p3, p4⟩ := x_one (X := X) hi h0 hu
    obtain ⟨w2, r1, r2, r3⟩ := ih (s + 1) (by omega) w1 p2 p3
    refine ⟨w2, ?_, r2, same_tr p4 r3⟩
    rw [← r1, z143_46]
    simp only [z143_48, z143_49, z143_52, z143_53, z143_54, z143_57, z143_60, Option.bind_some, Option.toList_some, Option.toList_none, List.cons_append, List.nil_append, sc_i, sc_r, sc_l, sc_u, sc_s, List.length_nil, List.length_cons, Nat.reduceAdd, Nat.reduceLeDiff, Nat.zero_le, le4_0, le4_1, le4_2, le4_3, rz0, rz1, rzt, eq_self, fo_f, fo_a, fo_j, co_f, co_a, co_j, ao_f, ao_a, ao_j, zo_f, zo_a, zo_j, jo_f, jo_a, jo_j, al_f, al_a, al_j, fg_a, fg_j, ag_f, ag_j, jg_f, jg_a, fk_f, fk_a, fk_j, fi_a, fi_j, tI_0, tI_n0, if_true, if_false, ne_eq, not_true_eq_false, not_false_eq_true, and_self, Bool.false_eq_true, e, e', oc64 h0, of64_0 h0, og64_0 h0, ok64_0 h0, of64_1 h0, og64_1 h0, of64_2 h0, og64_2 h0, of64_3 h0, og64_3 h0, of64_4 h0, og64_4 h0, of64_5 h0, og64_5 h0, ok64_5 h0, of64_6 h0, og64_6 h0, ok64_6 h0, of64_7 h0, og64_7 h0, of64_8 h0, og64_8 h0, of64_9 h0, og64_9 h0, of64_10 h0, og64_10 h0, of64_11 h0, og64_11 h0, of64_12 h0, og64_12 h0, of64_13 h0, og64_13 h0, ok64_13 h0, of64_14 h0, og64_14 h0, of64_15 h0, og64_15 h0, ok64_15 h0, of64_16 h0, og64_16 h0, of64_17 h0, og64_17 h0, of64_18 h0, og64_18 h0, of64_19 h0, og64_19 h0, of64_20 h0, og64_20 h0, of64_21 h0, og64_21 h0, ok64_21 h0, of64_22 h0, og64_22 h0, of64_23 h0, og64_23 h0, ok64_23 h0, of64_24 h0, og64_24 h0, ok64_24 h0, of64_25 h0, og64_25 h0, ok64_25 h0, of64_26 h0, og64_26 h0, ok64_26 h0, of64_27 h0, og64_27 h0, ok64_27 h0, of64_28 h0, og64_28 h0, of64_29 h0, og64_29 h0, of64_30 h0, og64_30 h0, of64_31 h0, og64_31 h0, of64_32 h0, og64_32 h0, of64_33 h0, og64_33 h0, of64_34 h0, og64_34 h0, of64_35 h0, og64_35 h0, ok64_35 h0, of64_36 h0, og64_36 h0, ok64_36 h0, p1, nI_1]
theorem x_countOf {X : Scr} {w : AW} {i n k : Nat} (h0 : OK w) (hi : i ≤ 10) (hn : n ≤ 30) (hk : k ≤ n) : ∃ w', Z X 143 0 [.ref 64, .int (nI i), .int (nI n), .int (nI k), uns] [] w = some (some (.int (nI (if n = 0 then 1 else cN2 i n k))), w') ∧ OK w' ∧ same w w' := by
  obtain ⟨w1, a1, a2, a3, a4⟩ := x_cz (X := X) (v1 := .int (nI i)) (v2 := .int (nI n)) (v3 := .int (nI k)) 64 0 rfl w h0 (fun t ht => absurd ht (Nat.not_lt_zero t))
  have z0 : nI 0 = 0 := rfl
  have z1 : nI 1 = 1 := rfl
  have es : (10 : Int32) - nI i = nI (10 - i) := pk_sub (a := 10) hi
  have el1 : (nI (10 - i)).toInt64 = lN (10 - i) := nI_l (by omega)
  have el2 : (nI i).toInt64 = lN i := nI_l (by omega)
  have b0 : inB 0 64 = true := b64 (j := 0) (by decide)
  have b3 : inB 3 64 = true := b64 (j := 3) (by decide)
  have c0 : (0 : Int32).toNatClampNeg = 0 := rfl
  have c3 : (3 : Int32).toNatClampNeg = 3 := rfl
  rw [z0] at a1
  obtain ⟨W, hW⟩ : ∃ W, W = jset w1 82 (vp_updL (vp_updL (jget w1 82) 0 (lN (10 - i))) 3 (lN i)) := ⟨_, rfl⟩
  have okW : OK W := by rw [hW]; exact ok_j a2
  have sW : same w W := by rw [hW]; exact same_tr a4 same_j
  by_cases hn0 : n = 0
  · subst hn0
    have hk0 : k = 0 := by omega
    subst hk0
    have e1 : (1 : Int32) ≥ 0 := by decide
    refine ⟨W, ?_, okW, sW⟩
    rw [z0] at a1
    rw [if_pos rfl, z1, hW]
    simp only [z143_0, z143_1, z143_5, z143_7, z143_10, z143_11, z143_14, z143_16, z143_17, z143_18, z143_21, z143_24, z143_25, z143_28, z143_29, z143_31, z143_32, z143_33, z143_34, z143_35, z143_36, z143_39, z143_40, z143_41, z143_42, z143_43, z143_44, z143_48, z143_49, z143_52, z143_53, z143_54, z143_57, z143_60, z143_63, z143_64, z143_67, z143_68, z143_71, z143_72, z143_75, z143_76, z143_79, z143_80, z143_83, z143_84, z143_85, z143_86, z143_87, z143_88, z143_91, z143_92, z143_93, z143_94, z143_95, z143_96, z143_97, z143_98, z143_101, z143_102, z143_103, z143_46, Option.bind_some, Option.toList_some, Option.toList_none, List.cons_append, List.nil_append, sc_i, sc_r, sc_l, sc_u, sc_s, List.length_nil, List.length_cons, Nat.reduceAdd, Nat.reduceLeDiff, Nat.zero_le, le4_0, le4_1, le4_2, le4_3, rz0, rz1, rzt, eq_self, fo_f, fo_a, fo_j, co_f, co_a, co_j, ao_f, ao_a, ao_j, zo_f, zo_a, zo_j, jo_f, jo_a, jo_j, al_f, al_a, al_j, fg_a, fg_j, ag_f, ag_j, jg_f, jg_a, fk_f, fk_a, fk_j, fi_a, fi_j, ag_s, ag_z, ag_n, fi_s, fi_n, fg_s, fg_n, jg_s, jg_n, Nat.reduceEqDiff, not_false_eq_true, and_false, false_and, true_and, and_true, and_self, tI_0, tI_n0, if_true, if_false, ne_eq, not_true_eq_false, not_false_eq_true, and_self, Bool.false_eq_true, z0, a1, es, el1, el2, oc64 a2, of64_0 a2, og64_0 a2, ok64_0 a2, of64_1 a2, og64_1 a2, of64_2 a2, og64_2 a2, of64_3 a2, og64_3 a2, of64_4 a2, og64_4 a2, of64_5 a2, og64_5 a2, ok64_5 a2, of64_6 a2, og64_6 a2, ok64_6 a2, of64_7 a2, og64_7 a2, of64_8 a2, og64_8 a2, of64_9 a2, og64_9 a2, of64_10 a2, og64_10 a2, of64_11 a2, og64_11 a2, of64_12 a2, og64_12 a2, of64_13 a2, og64_13 a2, ok64_13 a2, of64_14 a2, og64_14 a2, of64_15 a2, og64_15 a2, ok64_15 a2, of64_16 a2, og64_16 a2, of64_17 a2, og64_17 a2, of64_18 a2, og64_18 a2, of64_19 a2, og64_19 a2, of64_20 a2, og64_20 a2, of64_21 a2, og64_21 a2, ok64_21 a2, of64_22 a2, og64_22 a2, of64_23 a2, og64_23 a2, ok64_23 a2, of64_24 a2, og64_24 a2, ok64_24 a2, of64_25 a2, og64_25 a2, ok64_25 a2, of64_26 a2, og64_26 a2, ok64_26 a2, of64_27 a2, og64_27 a2, ok64_27 a2, of64_28 a2, og64_28 a2, of64_29 a2, og64_29 a2, of64_30 a2, og64_30 a2, of64_31 a2, og64_31 a2, of64_32 a2, og64_32 a2, of64_33 a2, og64_33 a2, of64_34 a2, og64_34 a2, of64_35 a2, og64_35 a2, ok64_35 a2, of64_36 a2, og64_36 a2, ok64_36 a2, oa82 a2, ol82 a2, b0, b3, c0, c3, js_s, e1]
  · have hu : UW (jget W 82) i 0 := by
      intro j hj
      rw [hW, jg_s (oa82 a2)]
      simp only [updJ]
      refine ⟨?_, ?_⟩
      · rw [if_neg (show ¬ 2 * j = 3 by omega)]
        show _ = lN (if j = 0 then 10 - i else 0)
        by_cases q : j = 0
        · rw [if_pos q, if_pos (by omega)]
        · rw [if_neg q, if_neg (by omega), a3 _ (by omega)]; rfl
      · show _ = lN (if j = 1 then i else 0)
        by_cases q : j = 1
        · rw [if_pos q, if_pos (by omega)]
        · rw [if_neg q, if_neg (by omega), if_neg (by omega), a3 _ (by omega)]; rfl
    obtain ⟨w2, r1, r2, r3⟩ := x_coL (X := X) (k := k) hi hn (by omega) (by omega) (n - 1) 0 (by omega) W okW hu
    have z01 : nI (0 + 1) = 1 := rfl
    rw [z01, hW] at r1
    refine ⟨w2, ?_, r2, same_tr sW r3⟩
    rw [if_neg hn0]
    simp only [z143_0, z143_1, z143_5, z143_7, z143_10, z143_11, z143_14, z143_16, z143_17, z143_18, z143_21, z143_24, z143_25, z143_28, z143_29, z143_31, z143_32, z143_33, z143_34, z143_35, z143_36, z143_39, z143_40, z143_41, z143_42, z143_43, z143_44, z143_48, z143_49, z143_52, z143_53, z143_54, z143_57, z143_60, z143_63, z143_64, z143_67, z143_68, z143_71, z143_72, z143_75, z143_76, z143_79, z143_80, z143_83, z143_84, z143_85, z143_86, z143_87, z143_88, z143_91, z143_92, z143_93, z143_94, z143_95, z143_96, z143_97, z143_98, z143_101, z143_102, z143_103, Option.bind_some, Option.toList_some, Option.toList_none, List.cons_append, List.nil_append, sc_i, sc_r, sc_l, sc_u, sc_s, List.length_nil, List.length_cons, Nat.reduceAdd, Nat.reduceLeDiff, Nat.zero_le, le4_0, le4_1, le4_2, le4_3, rz0, rz1, rzt, eq_self, fo_f, fo_a, fo_j, co_f, co_a, co_j, ao_f, ao_a, ao_j, zo_f, zo_a, zo_j, jo_f, jo_a, jo_j, al_f, al_a, al_j, fg_a, fg_j, ag_f, ag_j, jg_f, jg_a, fk_f, fk_a, fk_j, fi_a, fi_j, ag_s, ag_z, ag_n, fi_s, fi_n, fg_s, fg_n, jg_s, jg_n, Nat.reduceEqDiff, not_false_eq_true, and_false, false_and, true_and, and_true, and_self, tI_0, tI_n0, if_true, if_false, ne_eq, not_true_eq_false, not_false_eq_true, and_self, Bool.false_eq_true, a1, es, el1, el2, oc64 a2, of64_0 a2, og64_0 a2, ok64_0 a2, of64_1 a2, og64_1 a2, of64_2 a2, og64_2 a2, of64_3 a2, og64_3 a2, of64_4 a2, og64_4 a2, of64_5 a2, og64_5 a2, ok64_5 a2, of64_6 a2, og64_6 a2, ok64_6 a2, of64_7 a2, og64_7 a2, of64_8 a2, og64_8 a2, of64_9 a2, og64_9 a2, of64_10 a2, og64_10 a2, of64_11 a2, og64_11 a2, of64_12 a2, og64_12 a2, of64_13 a2, og64_13 a2, ok64_13 a2, of64_14 a2, og64_14 a2, of64_15 a2, og64_15 a2, ok64_15 a2, of64_16 a2, og64_16 a2, of64_17 a2, og64_17 a2, of64_18 a2, og64_18 a2, of64_19 a2, og64_19 a2, of64_20 a2, og64_20 a2, of64_21 a2, og64_21 a2, ok64_21 a2, of64_22 a2, og64_22 a2, of64_23 a2, og64_23 a2, ok64_23 a2, of64_24 a2, og64_24 a2, ok64_24 a2, of64_25 a2, og64_25 a2, ok64_25 a2, of64_26 a2, og64_26 a2, ok64_26 a2, of64_27 a2, og64_27 a2, ok64_27 a2, of64_28 a2, og64_28 a2, of64_29 a2, og64_29 a2, of64_30 a2, og64_30 a2, of64_31 a2, og64_31 a2, of64_32 a2, og64_32 a2, of64_33 a2, og64_33 a2, of64_34 a2, og64_34 a2, of64_35 a2, og64_35 a2, ok64_35 a2, of64_36 a2, og64_36 a2, ok64_36 a2, oa82 a2, ol82 a2, b0, b3, c0, c3, js_s, r1]
