/-! sentences, how many: the reference -/
theorem updJ {g : Nat → Int64} {j i : Nat} {x : Int64} : vp_updL g j x i = if i = j then x else g i := rfl
theorem b64 {j : Nat} (hj : j < 64) : inB (nI j) 64 = true := inB_nI hj (by decide)
theorem c64 {j : Nat} (hj : j < 64) : (nI j).toNatClampNeg = j := nI_clamp (by omega)
theorem cIO_z {i : Nat} : ∀ s k, (i = 0 → (cIO i s k).1 = 0) ∧ (10 - i = 0 → (cIO i s k).2 = 0) := by
  intro s
  induction s with
  | zero =>
    intro k
    refine ⟨fun h => ?_, fun h => ?_⟩
    · show (if k = 1 then i else 0) = 0
      by_cases e : k = 1
      · rw [if_pos e, h]
      · rw [if_neg e]
    · show (if k = 0 then 10 - i else 0) = 0
      by_cases e : k = 0
      · rw [if_pos e, h]
      · rw [if_neg e]
  | succ s ih =>
    intro k
    refine ⟨fun h => ?_, fun h => ?_⟩
    · show (if k = 0 then 0 else (cIO i s (k - 1)).1 * (i - 1) + (cIO i s (k - 1)).2 * i) % 1000007 = 0
      rw [(ih (k - 1)).1 h, h]
      by_cases e : k = 0
      · rw [if_pos e]
      · rw [if_neg e, Nat.zero_mul, Nat.mul_zero]
    · show ((cIO i s k).1 * (10 - i) + (cIO i s k).2 * (10 - i - 1)) % 1000007 = 0
      rw [(ih k).2 h, h, Nat.mul_zero, Nat.zero_mul]
theorem lm1 {a o : Nat} (ho : o < 11) (h : o = 0 → a = 0) : lN a * (nI o - 1).toInt64 = lN (a * (o - 1)) := by
  by_cases e : o = 0
  · rw [h e, Nat.zero_mul]
    show (0 : Int64) * _ = 0
    exact Int64.zero_mul
  · have e1 : nI o - 1 = nI (o - 1) := pk_sub (b := 1) (by omega)
    rw [e1, nI_l (by omega), lN_mul]
theorem lm2 {a o : Nat} (ho : o < 11) : lN a * (nI o).toInt64 = lN (a * o) := by rw [nI_l (by omega), lN_mul]
theorem x_oz {X : Scr} {v1 v2 v4 v5 v6 v7 : Value} : ∀ (n j : Nat), j + n = 64 → ∀ w : AW, OK w → (∀ t, t < j → jget w 83 t = 0) → ∃ w', Z X 144 7 [.ref 64, v1, v2, .int (nI j), v4, v5, v6, v7] [] w = Z X 144 26 [.ref 64, v1, v2, .int (nI 64), v4, v5, v6, v7] [] w' ∧ OK w' ∧ jget w' 82 = jget w 82 ∧ (∀ t, t < 64 → jget w' 83 t = 0) ∧ same w w' := by
  intro n
  induction n with
  | zero =>
    intro j hj w h0 hz
    have hj : j = 64 := hj
    subst hj
    have e : nI 64 ≥ 64 := by decide
    refine ⟨w, ?_, h0, rfl, hz, same_rf⟩
    rw [z144_7]
    simp only [z144_8, z144_10, Option.bind_some, Option.toList_some, Option.toList_none, List.cons_append, List.nil_append, sc_i, sc_r, sc_l, sc_u, sc_s, List.length_nil, List.length_cons, Nat.reduceAdd, Nat.reduceLeDiff, Nat.zero_le, le4_0, le4_1, le4_2, le4_3, rz0, rz1, rzt, eq_self, tI_0, tI_n0, if_true, if_false, ne_eq, not_true_eq_false, not_false_eq_true, and_self, Bool.false_eq_true, e]
  | succ n ih =>
    intro j hj w h0 hz
    have e : (nI j ≥ 64) = (64 ≤ j) := geN (b := 64) (by omega) (by decide)
    have e' : ¬ 64 ≤ j := by omega
    have hj64 : j < 64 := by omega
    obtain ⟨w', r1, r2, r3, r4, r5⟩ := ih (j + 1) (by omega) (jset w 83 (vp_updL (jget w 83) j 0)) (ok_j h0) (fun t ht => by
      rw [jg_s (oa83 h0), updJ]
      by_cases q : t = j
      · rw [if_pos q]
      · rw [if_neg q]; exact hz t (by omega))
    refine ⟨w', ?_, r2, ?_, r4, same_tr same_j r5⟩
    · rw [← r1, z144_7]
      simp only [z144_8, z144_10, z144_13, z144_14, z144_17, z144_18, z144_19, z144_20, z144_23, Option.bind_some, Option.toList_some, Option.toList_none, List.cons_append, List.nil_append, sc_i, sc_r, sc_l, sc_u, sc_s, List.length_nil, List.length_cons, Nat.reduceAdd, Nat.reduceLeDiff, Nat.zero_le, le4_0, le4_1, le4_2, le4_3, rz0, rz1, rzt, eq_self, fo_f, fo_a, fo_j, co_f, co_a, co_j, ao_f, ao_a, ao_j, zo_f, zo_a, zo_j, jo_f, jo_a, jo_j, al_f, al_a, al_j, fg_a, fg_j, ag_f, ag_j, jg_f, jg_a, fk_f, fk_a, fk_j, fi_a, fi_j, tI_0, tI_n0, if_true, if_false, ne_eq, not_true_eq_false, not_false_eq_true, and_self, Bool.false_eq_true, e, e', oc64 h0, of64_0 h0, og64_0 h0, ok64_0 h0, of64_1 h0, og64_1 h0, of64_2 h0, og64_2 h0, of64_3 h0, og64_3 h0, of64_4 h0, og64_4 h0, of64_5 h0, og64_5 h0, ok64_5 h0, of64_6 h0, og64_6 h0, ok64_6 h0, of64_7 h0, og64_7 h0, of64_8 h0, og64_8 h0, of64_9 h0, og64_9 h0, of64_10 h0, og64_10 h0, of64_11 h0, og64_11 h0, of64_12 h0, og64_12 h0, of64_13 h0, og64_13 h0, ok64_13 h0, of64_14 h0, og64_14 h0, of64_15 h0, og64_15 h0, ok64_15 h0, of64_16 h0, og64_16 h0, of64_17 h0, og64_17 h0, of64_18 h0, og64_18 h0, of64_19 h0, og64_19 h0, of64_20 h0, og64_20 h0, of64_21 h0, og64_21 h0, ok64_21 h0, of64_22 h0, og64_22 h0, of64_23 h0, og64_23 h0, ok64_23 h0, of64_24 h0, og64_24 h0, ok64_24 h0, of64_25 h0, og64_25 h0, ok64_25 h0, of64_26 h0, og64_26 h0, ok64_26 h0, of64_27 h0, og64_27 h0, ok64_27 h0, of64_28 h0, og64_28 h0, of64_29 h0, og64_29 h0, of64_30 h0, og64_30 h0, of64_31 h0, og64_31 h0, of64_32 h0, og64_32 h0, of64_33 h0, og64_33 h0, of64_34 h0, og64_34 h0, of64_35 h0, og64_35 h0, ok64_35 h0, of64_36 h0, og64_36 h0, ok64_36 h0, oa83 h0, ol83 h0, b64 hj64, c64 hj64, nI_1]
    · rw [r3, jg_n (by decide)]
def SO (i s k : Nat) : Nat := (cIO i s k).2 * (10 - i - 1) + (cIO i s k).1 * (10 - i)
def SN (i s k : Nat) : Nat := (cIO i s k).2 * i + (cIO i s k).1 * (i - 1)
theorem SO_b {i s k : Nat} (hi : i ≤ 10) : SO i s k < 30000000 ∧ SN i s k < 30000000 := by
  obtain ⟨l1, l2⟩ := cIO_lt hi s k
  have m1 := mul_b l1 (show 10 - i ≤ 10 by omega)
  have m2 := mul_b l2 (show 10 - i - 1 ≤ 10 by omega)
  have m3 := mul_b l1 (show i - 1 ≤ 10 by omega)
  have m4 := mul_b l2 hi
  unfold SO SN
  omega
theorem SO_e {i s k : Nat} : SO i s k % 1000007 = (cIO i (s + 1) k).2 := by
  show _ = ((cIO i s k).1 * (10 - i) + (cIO i s k).2 * (10 - i - 1)) % 1000007
  rw [SO, Nat.add_comm]
theorem SN_e {i s k : Nat} : SN i s k % 1000007 = (cIO i (s + 1) (k + 1)).1 := by
  show _ = (if k + 1 = 0 then 0 else (cIO i s (k + 1 - 1)).1 * (i - 1) + (cIO i s (k + 1 - 1)).2 * i) % 1000007
  rw [if_neg (by omega), SN, Nat.add_comm, Nat.add_sub_cancel]
def GG (i s k t : Nat) : Nat := if t % 2 = 0 then (if t / 2 < k then SO i s (t / 2) else 0) else (if 1 ≤ t / 2 ∧ t / 2 ≤ k then SN i s (t / 2 - 1) else 0)
theorem GG_b {i s k t : Nat} (hi : i ≤ 10) : GG i s k t < 30000000 := by
  unfold GG
  by_cases e : t % 2 = 0
  · rw [if_pos e]
    by_cases q : t / 2 < k
    · rw [if_pos q]; exact (SO_b hi).1
    · rw [if_neg q]; decide
  · rw [if_neg e]
    by_cases q : 1 ≤ t / 2 ∧ t / 2 ≤ k
    · rw [if_pos q]; exact (SO_b hi).2
    · rw [if_neg q]; decide
theorem GG_s {i s k : Nat} (t : Nat) : GG i s (k + 1) t = if t = 2 * k + 3 then SN i s k else if t = 2 * k then SO i s k else GG i s k t := by
  by_cases e : t = 2 * k + 3
  · rw [if_pos e]
    subst e
    unfold GG
    rw [if_neg (by omega), if_pos (by omega)]
    congr 1
    omega
  · rw [if_neg e]
    by_cases e2 : t = 2 * k
    · rw [if_pos e2]
      subst e2
      unfold GG
      rw [if_pos (by omega), if_pos (by omega)]
      congr 1
      omega
    · rw [if_neg e2]
      unfold GG
      by_cases q : t % 2 = 0
      · rw [if_pos q, if_pos q]
        by_cases z : t / 2 < k
        · rw [if_pos (by omega), if_pos z]
        · rw [if_neg (by omega), if_neg z]
      · rw [if_neg q, if_neg q]
        by_cases z : 1 ≤ t / 2 ∧ t / 2 ≤ k
        · rw [if_pos (by omega), if_pos z]
        · rw [if_neg (by omega), if_neg z]
theorem GG_0 {i s k : Nat} : GG i s k (2 * k) = 0 ∧ GG i s k (2 * k + 3) = 0 := by
  unfold GG
  refine ⟨?_, ?_⟩
  · rw [if_pos (by omega), if_neg (by omega)]
  · rw [if_neg (by omega), if_neg (by omega)]
theorem x_ol {X : Scr} {i s : Nat} {v1 : Value} (hi : i ≤ 10) : ∀ (n k : Nat), k + n = 31 → ∀ (w : AW) (v4 v5 v6 v7 : Value), isSec v4 = false → isSec v6 = false → OK w → UW (jget w 82) i s → (∀ t, t < 64 → jget w 83 t = lN (GG i s k t)) → ∃ (w' : AW) (u4 u5 u6 u7 : Value), Z X 144 28 [.ref 64, .int (nI i), .int (nI (10 - i)), .int (nI k), v4, v5, v6, v7] [] w = Z X 144 112 [.ref 64, .int (nI i), .int (nI (10 - i)), .int (nI 31), u4, u5, u6, u7] [] w' ∧ OK w' ∧ (∀ t, t < 64 → jget w' 83 t = lN (GG i s 31 t)) ∧ same w w' := by
  intro n
  induction n with
  | zero =>
    intro k hk w v4 v5 v6 v7 h4 h6 h0 hu hg
    have hk : k = 31 := hk
    subst hk
    have e : nI 31 ≥ 31 := by decide
    refine ⟨w, v4, v5, v6, v7, ?_, h0, hg, same_rf⟩
    rw [z144_28]
    simp only [z144_29, z144_31, Option.bind_some, Option.toList_some, Option.toList_none, List.cons_append, List.nil_append, sc_i, sc_r, sc_l, sc_u, sc_s, List.length_nil, List.length_cons, Nat.reduceAdd, Nat.reduceLeDiff, Nat.zero_le, le4_0, le4_1, le4_2, le4_3, rz0, rz1, rzt, eq_self, tI_0, tI_n0, if_true, if_false, ne_eq, not_true_eq_false, not_false_eq_true, and_self, Bool.false_eq_true, e]
  | succ n ih =>
    intro k hk w v4 v5 v6 v7 h4 h6 h0 hu hg
    have e : (nI k ≥ 31) = (31 ≤ k) := geN (b := 31) (by omega) (by decide)
    have e' : ¬ 31 ≤ k := by omega
    have hk31 : k < 31 := by omega
    obtain ⟨u1, u2⟩ := hu k hk31
    obtain ⟨g1, g2⟩ := GG_0 (i := i) (s := s) (k := k)
    have a1 := hg (2 * k) (by omega)
    have a2 := hg (2 * k + 3) (by omega)
    rw [g1] at a1
    rw [g2] at a2
    have p1 : (2 : Int32) * nI k = nI (2 * k) := by rw [show (2 : Int32) = nI 2 from rfl, pk_mul]
    have p2 : nI (2 * k) + 3 = nI (2 * k + 3) := nI_add (2 * k) 3
    have ne : ¬ 2 * k + 3 = 2 * k := by omega
    obtain ⟨w', b4, b5, b6, b7, r1, r2, r3, r4⟩ := ih (k + 1) (by omega) (jset w 83 (vp_updL (vp_updL (jget w 83) (2 * k) (lN (SO i s k))) (2 * k + 3) (lN (SN i s k)))) (.long (lN (cIO i s k).2)) sec (.long (lN (cIO i s k).1)) sec sc_l sc_l (ok_j h0) (by rw [jg_n (by decide)]; exact hu) (fun t ht => by
      rw [jg_s (oa83 h0), updJ, updJ, GG_s t]
      by_cases q : t = 2 * k + 3
      · rw [if_pos q, if_pos q]
      · rw [if_neg q, if_neg q]
        by_cases q2 : t = 2 * k
        · rw [if_pos q2, if_pos q2]
        · rw [if_neg q2, if_neg q2]; exact hg t ht)
    refine ⟨w', b4, b5, b6, b7, ?_, r2, r3, same_tr same_j r4⟩
    have y1 := lm1 (a := (cIO i s k).2) (o := 10 - i) (by omega) (cIO_z s k).2
    have y2 := lm2 (a := (cIO i s k).1) (o := 10 - i) (by omega)
    have y3 := lm2 (a := (cIO i s k).2) (o := i) (by omega)
    have y4 := lm1 (a := (cIO i s k).1) (o := i) (by omega) (cIO_z s k).1
    have y5 : (cIO i s k).2 * (10 - i - 1) + (cIO i s k).1 * (10 - i) = SO i s k := rfl
    have y6 : (cIO i s k).2 * i + (cIO i s k).1 * (i - 1) = SN i s k := rfl
    rw [← r1, z144_28]
    simp only [z144_0, z144_2, z144_3, z144_4, z144_5, z144_6, z144_8, z144_10, z144_13, z144_14, z144_17, z144_18, z144_19, z144_20, z144_23, z144_26, z144_27, z144_29, z144_31, z144_34, z144_35, z144_38, z144_39, z144_40, z144_41, z144_42, z144_44, z144_45, z144_48, z144_49, z144_50, z144_51, z144_52, z144_53, z144_54, z144_56, z144_57, z144_60, z144_61, z144_62, z144_63, z144_64, z144_65, z144_67, z144_68, z144_69, z144_70, z144_71, z144_72, z144_74, z144_75, z144_76, z144_77, z144_78, z144_79, z144_80, z144_81, z144_84, z144_85, z144_86, z144_87, z144_88, z144_89, z144_90, z144_91, z144_93, z144_94, z144_95, z144_96, z144_98, z144_99, z144_100, z144_101, z144_102, z144_103, z144_104, z144_105, z144_106, z144_109, z144_113, z144_115, z144_117, z144_120, z144_121, z144_124, z144_125, z144_126, z144_129, z144_130, z144_131, z144_134, z144_135, z144_136, z144_139, z144_142, Option.bind_some, Option.toList_some, Option.toList_none, List.cons_append, List.nil_append, sc_i, sc_r, sc_l, sc_u, sc_s, List.length_nil, List.length_cons, Nat.reduceAdd, Nat.reduceLeDiff, Nat.zero_le, le4_0, le4_1, le4_2, le4_3, rz0, rz1, rzt, eq_self, fo_f, fo_a, fo_j, co_f, co_a, co_j, ao_f, ao_a, ao_j, zo_f, zo_a, zo_j, jo_f, jo_a, jo_j, al_f, al_a, al_j, fg_a, fg_j, ag_f, ag_j, jg_f, jg_a, fk_f, fk_a, fk_j, fi_a, fi_j, ag_s, ag_z, ag_n, fi_s, fi_n, fg_s, fg_n, jg_s, jg_n, Nat.reduceEqDiff, not_false_eq_true, and_false, false_and, true_and, and_true, and_self, tI_0, tI_n0, if_true, if_false, ne_eq, not_true_eq_false, not_false_eq_true, and_self, Bool.false_eq_true, e, e', oc64 h0, of64_0 h0, og64_0 h0, ok64_0 h0, of64_1 h0, og64_1 h0, of64_2 h0, og64_2 h0, of64_3 h0, og64_3 h0, of64_4 h0, og64_4 h0, of64_5 h0, og64_5 h0, ok64_5 h0, of64_6 h0, og64_6 h0, ok64_6 h0, of64_7 h0, og64_7 h0, of64_8 h0, og64_8 h0, of64_9 h0, og64_9 h0, of64_10 h0, og64_10 h0, of64_11 h0, og64_11 h0, of64_12 h0, og64_12 h0, of64_13 h0, og64_13 h0, ok64_13 h0, of64_14 h0, og64_14 h0, of64_15 h0, og64_15 h0, ok64_15 h0, of64_16 h0, og64_16 h0, of64_17 h0, og64_17 h0, of64_18 h0, og64_18 h0, of64_19 h0, og64_19 h0, of64_20 h0, og64_20 h0, of64_21 h0, og64_21 h0, ok64_21 h0, of64_22 h0, og64_22 h0, of64_23 h0, og64_23 h0, ok64_23 h0, of64_24 h0, og64_24 h0, ok64_24 h0, of64_25 h0, og64_25 h0, ok64_25 h0, of64_26 h0, og64_26 h0, ok64_26 h0, of64_27 h0, og64_27 h0, ok64_27 h0, of64_28 h0, og64_28 h0, of64_29 h0, og64_29 h0, of64_30 h0, og64_30 h0, of64_31 h0, og64_31 h0, of64_32 h0, og64_32 h0, of64_33 h0, og64_33 h0, of64_34 h0, og64_34 h0, of64_35 h0, og64_35 h0, ok64_35 h0, of64_36 h0, og64_36 h0, ok64_36 h0, oa82 h0, ol82 h0, oa83 h0, ol83 h0, p1, nI_1, p2, b64 (show 2 * k < 64 by omega), c64 (show 2 * k < 64 by omega), b64 (show 2 * k + 1 < 64 by omega), c64 (show 2 * k + 1 < 64 by omega), b64 (show 2 * k + 3 < 64 by omega), c64 (show 2 * k + 3 < 64 by omega), u1, u2, h4, h6, a1, a2, updJ, ne, y1, y2, y3, y4, lN_add, y5, y6, Nat.zero_add, js_s]
