/-! year -/
def yr1 (ag le ti : Nat → Int32) (d : DS) (x : Nat) : DS := if x / 8 % 8 < 3 then dA ag ti d 0 (x % 8) (x / 64 % 8) else if x / 8 % 8 < 5 then (if bq d.2.1 (x % 8) = true then sayA le d (x % 8) (x / 64 % 10) else d) else if x / 8 % 8 = 5 then dA ag ti d 2 (x % 8) (x / 64 % 8) else if x / 8 % 8 = 6 then dA ag ti d 4 (x % 8) (x / 64 % 8) else if x / 64 % 16 = 0 then dA ag ti d 3 (x % 8) (x / 64 % 8) else d
theorem DI_dA {ag ti : Nat → Int32} {d : DS} {k j t : Nat} (hs : STc ag ti) (h : DI d) (hj : j < 8) (ht : t < 8) : DI (dA ag ti d k j t) := by
  unfold dA
  by_cases c : whyA ag ti d k j t = 0
  · rw [if_pos c]; exact DI_do hs h hj ht c
  · rw [if_neg c]; exact h
theorem DI_yr {ag le ti : Nat → Int32} {d : DS} {x : Nat} (hs : STc ag ti) (h : DI d) : DI (yr1 ag le ti d x) := by
  have hj : x % 8 < 8 := Nat.mod_lt _ (by decide)
  have ht : x / 64 % 8 < 8 := Nat.mod_lt _ (by decide)
  unfold yr1
  split
  · exact DI_dA hs h hj ht
  · split
    · split
      · exact DI_say h hj
      · exact h
    · split
      · exact DI_dA hs h hj ht
      · split
        · exact DI_dA hs h hj ht
        · split
          · exact DI_dA hs h hj ht
          · exact h
def yrN (ag le ti : Nat → Int32) : Nat → Nat → DS → DS
  | 0, _, d => d
  | n + 1, x, d => yrN ag le ti n ((75 * x + 74) % 65537) (yr1 ag le ti d ((75 * x + 74) % 65537))
theorem t_year1 {X : Scr} {w : AW} {x : Nat} {ag le ti : Nat → Int32} {d : DS} (h0 : OK w) (h : hT w 6 ag le ti d) (hx : x < 65537) : ∃ w', Z X 85 0 [.ref 6, .int (nI x), uns, uns] [] w = some (none, w') ∧ OK w' ∧ hT w' 6 ag le ti (yr1 ag le ti d x) ∧ FT 6 w w' := by
  have e1 : nI x - nI x / 8 * 8 = nI (x % 8) := pk_rem (d := 8) (by omega) (by decide) (by decide)
  have e2 : nI x / 64 = nI (x / 64) := pk_div (d := 64) (by omega) (by decide) (by decide)
  have e3 : nI x / 8 = nI (x / 8) := pk_div (d := 8) (by omega) (by decide) (by decide)
  rw [e3] at e1
  have e4 : nI (x / 8) - nI (x / 8) / 8 * 8 = nI (x / 8 % 8) := pk_rem (d := 8) (by omega) (by decide) (by decide)
  have e5 : nI (x / 64) - nI (x / 64) / 8 * 8 = nI (x / 64 % 8) := pk_rem (d := 8) (by omega) (by decide) (by decide)
  have e6 : nI (x / 64) - nI (x / 64) / 10 * 10 = nI (x / 64 % 10) := pk_rem (d := 10) (by omega) (by decide) (by decide)
  have e7 : nI (x / 64) - nI (x / 64) / 16 * 16 = nI (x / 64 % 16) := pk_rem (d := 16) (by omega) (by decide) (by decide)
  have n8 : ¬ (8 : Int32) = 0 := by decide
  have n64 : ¬ (64 : Int32) = 0 := by decide
  have n16 : ¬ (16 : Int32) = 0 := by decide
  have hj : x % 8 < 8 := Nat.mod_lt _ (by decide)
  have ht : x / 64 % 8 < 8 := Nat.mod_lt _ (by decide)
  have hl : x / 64 % 10 < 10 := Nat.mod_lt _ (by decide)
  obtain ⟨wl, a1, a2, a3, a4⟩ := t_lend (X := X) h0 (Or.inl rfl) h hj ht
  obtain ⟨ws, b1, b2, b3, b4⟩ := t_speak (X := X) h0 (Or.inl rfl) h hj hl
  obtain ⟨wr, r1, r2, r3, r4⟩ := t_rest (X := X) (t := x / 64 % 8) h0 (Or.inl rfl) h hj
  obtain ⟨wf, f1, f2, f3, f4⟩ := t_fall (X := X) (j := x % 8) (t := x / 64 % 8) h0 (Or.inl rfl) h
  obtain ⟨wd, d1, d2, d3, d4⟩ := t_die (X := X) (t := x / 64 % 8) h0 (Or.inl rfl) h hj
  have hb : x / 8 % 8 < 8 := Nat.mod_lt _ (by decide)
  obtain ⟨y, hy⟩ : ∃ y, y = x / 8 % 8 := ⟨_, rfl⟩
  unfold yr1
  rw [← hy] at e4 hb ⊢
  match y, hb, e4 with
  | 0, _, e4 =>
    have e4 : nI (x / 8) - nI (x / 8) / 8 * 8 = 0 := e4
    refine ⟨wl, ?_, a2, a3, a4⟩
    simp only [z85_0, z85_1, z85_3, z85_4, z85_5, z85_6, z85_8, z85_9, z85_10, z85_11, z85_13, z85_14, z85_16, z85_17c0, z85_17c1, z85_17c2, z85_17c3, z85_17c4, z85_17c5, z85_17c6, z85_17d, z85_60, z85_61, z85_62, z85_63, z85_65, z85_66, z85_69, z85_70, z85_73, z85_74, z85_75, z85_76, z85_78, z85_79, z85_82, z85_83, z85_86, z85_87, z85_88, z85_91, z85_92, z85_95, z85_96, z85_99, z85_100, z85_103, z85_104, z85_106, z85_107, z85_110, z85_111, z85_112, z85_115, z85_116, Option.bind_some, Option.toList_some, Option.toList_none, List.cons_append, List.nil_append, sc_i, sc_r, sc_l, sc_u, sc_s, List.length_nil, List.length_cons, Nat.reduceAdd, Nat.reduceLeDiff, Nat.zero_le, le4_0, le4_1, le4_2, le4_3, rz0, rz1, rzt, eq_self, tI_0, tI_n0, if_true, if_false, ne_eq, not_true_eq_false, not_false_eq_true, and_self, Bool.false_eq_true, sc_u, e1, e2, e3, e4, e5, n8, n64, oc6 h0, of6_0 h0, og6_0 h0, of6_1 h0, og6_1 h0, of6_2 h0, og6_2 h0, of6_3 h0, og6_3 h0, of6_4 h0, og6_4 h0, ok6_4 h0, of6_5 h0, og6_5 h0, ok6_5 h0, of6_6 h0, og6_6 h0, ok6_6 h0, a1]
  | 1, _, e4 =>
    have e4 : nI (x / 8) - nI (x / 8) / 8 * 8 = 1 := e4
    refine ⟨wl, ?_, a2, a3, a4⟩
    simp only [z85_0, z85_1, z85_3, z85_4, z85_5, z85_6, z85_8, z85_9, z85_10, z85_11, z85_13, z85_14, z85_16, z85_17c0, z85_17c1, z85_17c2, z85_17c3, z85_17c4, z85_17c5, z85_17c6, z85_17d, z85_60, z85_61, z85_62, z85_63, z85_65, z85_66, z85_69, z85_70, z85_73, z85_74, z85_75, z85_76, z85_78, z85_79, z85_82, z85_83, z85_86, z85_87, z85_88, z85_91, z85_92, z85_95, z85_96, z85_99, z85_100, z85_103, z85_104, z85_106, z85_107, z85_110, z85_111, z85_112, z85_115, z85_116, Option.bind_some, Option.toList_some, Option.toList_none, List.cons_append, List.nil_append, sc_i, sc_r, sc_l, sc_u, sc_s, List.length_nil, List.length_cons, Nat.reduceAdd, Nat.reduceLeDiff, Nat.zero_le, le4_0, le4_1, le4_2, le4_3, rz0, rz1, rzt, eq_self, tI_0, tI_n0, if_true, if_false, ne_eq, not_true_eq_false, not_false_eq_true, and_self, Bool.false_eq_true, sc_u, e1, e2, e3, e4, e5, n8, n64, oc6 h0, of6_0 h0, og6_0 h0, of6_1 h0, og6_1 h0, of6_2 h0, og6_2 h0, of6_3 h0, og6_3 h0, of6_4 h0, og6_4 h0, ok6_4 h0, of6_5 h0, og6_5 h0, ok6_5 h0, of6_6 h0, og6_6 h0, ok6_6 h0, a1]
  | 2, _, e4 =>
    have e4 : nI (x / 8) - nI (x / 8) / 8 * 8 = 2 := e4
    refine ⟨wl, ?_, a2, a3, a4⟩
    simp only [z85_0, z85_1, z85_3, z85_4, z85_5, z85_6, z85_8, z85_9, z85_10, z85_11, z85_13, z85_14, z85_16, z85_17c0, z85_17c1, z85_17c2, z85_17c3, z85_17c4, z85_17c5, z85_17c6, z85_17d, z85_60, z85_61, z85_62, z85_63, z85_65, z85_66, z85_69, z85_70, z85_73, z85_74, z85_75, z85_76, z85_78, z85_79, z85_82, z85_83, z85_86, z85_87, z85_88, z85_91, z85_92, z85_95, z85_96, z85_99, z85_100, z85_103, z85_104, z85_106, z85_107, z85_110, z85_111, z85_112, z85_115, z85_116, Option.bind_some, Option.toList_some, Option.toList_none, List.cons_append, List.nil_append, sc_i, sc_r, sc_l, sc_u, sc_s, List.length_nil, List.length_cons, Nat.reduceAdd, Nat.reduceLeDiff, Nat.zero_le, le4_0, le4_1, le4_2, le4_3, rz0, rz1, rzt, eq_self, tI_0, tI_n0, if_true, if_false, ne_eq, not_true_eq_false, not_false_eq_true, and_self, Bool.false_eq_true, sc_u, e1, e2, e3, e4, e5, n8, n64, oc6 h0, of6_0 h0, og6_0 h0, of6_1 h0, og6_1 h0, of6_2 h0, og6_2 h0, of6_3 h0, og6_3 h0, of6_4 h0, og6_4 h0, ok6_4 h0, of6_5 h0, og6_5 h0, ok6_5 h0, of6_6 h0, og6_6 h0, ok6_6 h0, a1]
  | 3, _, e4 =>
    have e4 : nI (x / 8) - nI (x / 8) / 8 * 8 = 3 := e4
    refine ⟨ws, ?_, b2, b3, b4⟩
    simp only [z85_0, z85_1, z85_3, z85_4, z85_5, z85_6, z85_8, z85_9, z85_10, z85_11, z85_13, z85_14, z85_16, z85_17c0, z85_17c1, z85_17c2, z85_17c3, z85_17c4, z85_17c5, z85_17c6, z85_17d, z85_60, z85_61, z85_62, z85_63, z85_65, z85_66, z85_69, z85_70, z85_73, z85_74, z85_75, z85_76, z85_78, z85_79, z85_82, z85_83, z85_86, z85_87, z85_88, z85_91, z85_92, z85_95, z85_96, z85_99, z85_100, z85_103, z85_104, z85_106, z85_107, z85_110, z85_111, z85_112, z85_115, z85_116, Option.bind_some, Option.toList_some, Option.toList_none, List.cons_append, List.nil_append, sc_i, sc_r, sc_l, sc_u, sc_s, List.length_nil, List.length_cons, Nat.reduceAdd, Nat.reduceLeDiff, Nat.zero_le, le4_0, le4_1, le4_2, le4_3, rz0, rz1, rzt, eq_self, tI_0, tI_n0, if_true, if_false, ne_eq, not_true_eq_false, not_false_eq_true, and_self, Bool.false_eq_true, sc_u, e1, e2, e3, e4, e6, n8, n64, i10, oc6 h0, of6_0 h0, og6_0 h0, of6_1 h0, og6_1 h0, of6_2 h0, og6_2 h0, of6_3 h0, og6_3 h0, of6_4 h0, og6_4 h0, ok6_4 h0, of6_5 h0, og6_5 h0, ok6_5 h0, of6_6 h0, og6_6 h0, ok6_6 h0, b1]
  | 4, _, e4 =>
    have e4 : nI (x / 8) - nI (x / 8) / 8 * 8 = 4 := e4
    refine ⟨ws, ?_, b2, b3, b4⟩
    simp only [z85_0, z85_1, z85_3, z85_4, z85_5, z85_6, z85_8, z85_9, z85_10, z85_11, z85_13, z85_14, z85_16, z85_17c0, z85_17c1, z85_17c2, z85_17c3, z85_17c4, z85_17c5, z85_17c6, z85_17d, z85_60, z85_61, z85_62, z85_63, z85_65, z85_66, z85_69, z85_70, z85_73, z85_74, z85_75, z85_76, z85_78, z85_79, z85_82, z85_83, z85_86, z85_87, z85_88, z85_91, z85_92, z85_95, z85_96, z85_99, z85_100, z85_103, z85_104, z85_106, z85_107, z85_110, z85_111, z85_112, z85_115, z85_116, Option.bind_some, Option.toList_some, Option.toList_none, List.cons_append, List.nil_append, sc_i, sc_r, sc_l, sc_u, sc_s, List.length_nil, List.length_cons, Nat.reduceAdd, Nat.reduceLeDiff, Nat.zero_le, le4_0, le4_1, le4_2, le4_3, rz0, rz1, rzt, eq_self, tI_0, tI_n0, if_true, if_false, ne_eq, not_true_eq_false, not_false_eq_true, and_self, Bool.false_eq_true, sc_u, e1, e2, e3, e4, e6, n8, n64, i10, oc6 h0, of6_0 h0, og6_0 h0, of6_1 h0, og6_1 h0, of6_2 h0, og6_2 h0, of6_3 h0, og6_3 h0, of6_4 h0, og6_4 h0, ok6_4 h0, of6_5 h0, og6_5 h0, ok6_5 h0, of6_6 h0, og6_6 h0, ok6_6 h0, b1]
  | 5, _, e4 =>
    have e4 : nI (x / 8) - nI (x / 8) / 8 * 8 = 5 := e4
    refine ⟨wr, ?_, r2, r3, r4⟩
    simp only [z85_0, z85_1, z85_3, z85_4, z85_5, z85_6, z85_8, z85_9, z85_10, z85_11, z85_13, z85_14, z85_16, z85_17c0, z85_17c1, z85_17c2, z85_17c3, z85_17c4, z85_17c5, z85_17c6, z85_17d, z85_60, z85_61, z85_62, z85_63, z85_65, z85_66, z85_69, z85_70, z85_73, z85_74, z85_75, z85_76, z85_78, z85_79, z85_82, z85_83, z85_86, z85_87, z85_88, z85_91, z85_92, z85_95, z85_96, z85_99, z85_100, z85_103, z85_104, z85_106, z85_107, z85_110, z85_111, z85_112, z85_115, z85_116, Option.bind_some, Option.toList_some, Option.toList_none, List.cons_append, List.nil_append, sc_i, sc_r, sc_l, sc_u, sc_s, List.length_nil, List.length_cons, Nat.reduceAdd, Nat.reduceLeDiff, Nat.zero_le, le4_0, le4_1, le4_2, le4_3, rz0, rz1, rzt, eq_self, tI_0, tI_n0, if_true, if_false, ne_eq, not_true_eq_false, not_false_eq_true, and_self, Bool.false_eq_true, sc_u, e1, e2, e3, e4, n8, n64, oc6 h0, of6_0 h0, og6_0 h0, of6_1 h0, og6_1 h0, of6_2 h0, og6_2 h0, of6_3 h0, og6_3 h0, of6_4 h0, og6_4 h0, ok6_4 h0, of6_5 h0, og6_5 h0, ok6_5 h0, of6_6 h0, og6_6 h0, ok6_6 h0, r1]
  | 6, _, e4 =>
    have e4 : nI (x / 8) - nI (x / 8) / 8 * 8 = 6 := e4
    refine ⟨wf, ?_, f2, f3, f4⟩
    simp only [z85_0, z85_1, z85_3, z85_4, z85_5, z85_6, z85_8, z85_9, z85_10, z85_11, z85_13, z85_14, z85_16, z85_17c0, z85_17c1, z85_17c2, z85_17c3, z85_17c4, z85_17c5, z85_17c6, z85_17d, z85_60, z85_61, z85_62, z85_63, z85_65, z85_66, z85_69, z85_70, z85_73, z85_74, z85_75, z85_76, z85_78, z85_79, z85_82, z85_83, z85_86, z85_87, z85_88, z85_91, z85_92, z85_95, z85_96, z85_99, z85_100, z85_103, z85_104, z85_106, z85_107, z85_110, z85_111, z85_112, z85_115, z85_116, Option.bind_some, Option.toList_some, Option.toList_none, List.cons_append, List.nil_append, sc_i, sc_r, sc_l, sc_u, sc_s, List.length_nil, List.length_cons, Nat.reduceAdd, Nat.reduceLeDiff, Nat.zero_le, le4_0, le4_1, le4_2, le4_3, rz0, rz1, rzt, eq_self, tI_0, tI_n0, if_true, if_false, ne_eq, not_true_eq_false, not_false_eq_true, and_self, Bool.false_eq_true, sc_u, e1, e2, e3, e4, n8, n64, oc6 h0, of6_0 h0, og6_0 h0, of6_1 h0, og6_1 h0, of6_2 h0, og6_2 h0, of6_3 h0, og6_3 h0, of6_4 h0, og6_4 h0, ok6_4 h0, of6_5 h0, og6_5 h0, ok6_5 h0, of6_6 h0, og6_6 h0, ok6_6 h0, f1]
  | 7, _, e4 =>
    have e4 : nI (x / 8) - nI (x / 8) / 8 * 8 = 7 := e4
    have o7 : (7 : Int32).toInt < 0 ∨ 6 < (7 : Int32).toInt := by decide
    have ez : (nI (x / 64 % 16) = 0) = (x / 64 % 16 = 0) := eqN (b := 0) (by omega) (by decide)
    by_cases c : x / 64 % 16 = 0
    · refine ⟨wd, ?_, d2, ?_, d4⟩
      · have z0 : nI 0 = 0 := rfl
        simp only [z85_0, z85_1, z85_3, z85_4, z85_5, z85_6, z85_8, z85_9, z85_10, z85_11, z85_13, z85_14, z85_16, z85_17c0, z85_17c1, z85_17c2, z85_17c3, z85_17c4, z85_17c5, z85_17c6, z85_17d, z85_60, z85_61, z85_62, z85_63, z85_65, z85_66, z85_69, z85_70, z85_73, z85_74, z85_75, z85_76, z85_78, z85_79, z85_82, z85_83, z85_86, z85_87, z85_88, z85_91, z85_92, z85_95, z85_96, z85_99, z85_100, z85_103, z85_104, z85_106, z85_107, z85_110, z85_111, z85_112, z85_115, z85_116, Option.bind_some, Option.toList_some, Option.toList_none, List.cons_append, List.nil_append, sc_i, sc_r, sc_l, sc_u, sc_s, List.length_nil, List.length_cons, Nat.reduceAdd, Nat.reduceLeDiff, Nat.zero_le, le4_0, le4_1, le4_2, le4_3, rz0, rz1, rzt, eq_self, tI_0, tI_n0, if_true, if_false, ne_eq, not_true_eq_false, not_false_eq_true, and_self, Bool.false_eq_true, sc_u, e1, e2, e3, e4, o7, e7, ez, c, z0, n8, n64, n16, oc6 h0, of6_0 h0, og6_0 h0, of6_1 h0, og6_1 h0, of6_2 h0, og6_2 h0, of6_3 h0, og6_3 h0, of6_4 h0, og6_4 h0, ok6_4 h0, of6_5 h0, og6_5 h0, ok6_5 h0, of6_6 h0, og6_6 h0, ok6_6 h0, d1]
      · rw [if_neg (by decide), if_neg (by decide), if_neg (by decide), if_neg (by decide), if_pos c]; exact d3
    · refine ⟨w, ?_, h0, ?_, ft_rf⟩
      · simp only [z85_0, z85_1, z85_3, z85_4, z85_5, z85_6, z85_8, z85_9, z85_10, z85_11, z85_13, z85_14, z85_16, z85_17c0, z85_17c1, z85_17c2, z85_17c3, z85_17c4, z85_17c5, z85_17c6, z85_17d, z85_60, z85_61, z85_62, z85_63, z85_65, z85_66, z85_69, z85_70, z85_73, z85_74, z85_75, z85_76, z85_78, z85_79, z85_82, z85_83, z85_86, z85_87, z85_88, z85_91, z85_92, z85_95, z85_96, z85_99, z85_100, z85_103, z85_104, z85_106, z85_107, z85_110, z85_111, z85_112, z85_115, z85_116, Option.bind_some, Option.toList_some, Option.toList_none, List.cons_append, List.nil_append, sc_i, sc_r, sc_l, sc_u, sc_s, List.length_nil, List.length_cons, Nat.reduceAdd, Nat.reduceLeDiff, Nat.zero_le, le4_0, le4_1, le4_2, le4_3, rz0, rz1, rzt, eq_self, tI_0, tI_n0, if_true, if_false, ne_eq, not_true_eq_false, not_false_eq_true, and_self, Bool.false_eq_true, sc_u, e1, e2, e3, e4, o7, e7, ez, c, n8, n64, n16]
      · rw [if_neg (by decide), if_neg (by decide), if_neg (by decide), if_neg (by decide), if_neg c]; exact h
  | y + 8, hb, _ => omega
theorem x_tyL {X : Scr} {ag le ti : Nat → Int32} {m : Nat} {v1 v3 : Value} (hm : m < 100) : ∀ (n i : Nat), i + n = m → ∀ (w : AW) (d : DS) (x : Nat), x < 65537 → OK w → hT w 6 ag le ti d → ∃ w' x', Z X 84 50 [.ref 0, v1, .int (nI m), v3, .int (nI x), .int (nI i)] [] w = Z X 84 84 [.ref 0, v1, .int (nI m), v3, .int x', .int (nI m)] [] w' ∧ OK w' ∧ hT w' 6 ag le ti (yrN ag le ti n x d) ∧ FT 6 w w' := by
  intro n
  induction n with
  | zero =>
    intro i hi w d x hx h0 h
    have hi : i = m := hi
    subst hi
    refine ⟨w, nI x, ?_, h0, h, ft_rf⟩
    rw [z84_50]
    simp only [z84_52, z84_53, Option.bind_some, Option.toList_some, Option.toList_none, List.cons_append, List.nil_append, sc_i, sc_r, sc_l, sc_u, sc_s, List.length_nil, List.length_cons, Nat.reduceAdd, Nat.reduceLeDiff, Nat.zero_le, le4_0, le4_1, le4_2, le4_3, rz0, rz1, rzt, eq_self, tI_0, tI_n0, if_true, if_false, ne_eq, not_true_eq_false, not_false_eq_true, and_self, Bool.false_eq_true, geN (show i < 1000 by omega) (show i < 1000 by omega), Nat.le_refl]
  | succ n ih =>
    intro i hi w d x hx h0 h
    have e : ¬ m ≤ i := by omega
    have p1 : (75 : Int32) * nI x = nI (75 * x) := by rw [show (75 : Int32) = nI 75 from rfl, pk_mul]
    have p2 : nI (75 * x) + 74 = nI (75 * x + 74) := by rw [show (74 : Int32) = nI 74 from rfl, nI_add]
    have p3 : nI (75 * x + 74) - nI (75 * x + 74) / 65537 * 65537 = nI ((75 * x + 74) % 65537) := pk_rem (d := 65537) (by omega) (by decide) (by decide)
    have n6 : ¬ (65537 : Int32) = 0 := by decide
    have hx' : (75 * x + 74) % 65537 < 65537 := Nat.mod_lt _ (by decide)
    obtain ⟨w1, a1, a2, a3, a4⟩ := t_year1 (X := X) h0 h hx'
    obtain ⟨w', x', b1, b2, b3, b4⟩ := ih (i + 1) (by omega) w1 _ _ hx' a2 a3
    refine ⟨w', x', ?_, b2, b3, ft_tr a4 b4⟩
    rw [← b1, z84_50]
    simp only [z84_52, z84_53, z84_56, z84_58, z84_60, z84_61, z84_63, z84_64, z84_66, z84_67, z84_69, z84_70, z84_73, z84_75, z84_78, z84_81, Option.bind_some, Option.toList_some, Option.toList_none, List.cons_append, List.nil_append, sc_i, sc_r, sc_l, sc_u, sc_s, List.length_nil, List.length_cons, Nat.reduceAdd, Nat.reduceLeDiff, Nat.zero_le, le4_0, le4_1, le4_2, le4_3, rz0, rz1, rzt, eq_self, tI_0, tI_n0, if_true, if_false, ne_eq, not_true_eq_false, not_false_eq_true, and_self, Bool.false_eq_true, geN (show i < 1000 by omega) (show m < 1000 by omega), e, p1, p2, p3, n6, oc0 h0, of0_0 h0, og0_0 h0, of0_1 h0, og0_1 h0, of0_2 h0, og0_2 h0, of0_3 h0, og0_3 h0, of0_4 h0, og0_4 h0, of0_5 h0, og0_5 h0, of0_6 h0, og0_6 h0, of0_7 h0, og0_7 h0, of0_8 h0, og0_8 h0, of0_9 h0, og0_9 h0, of0_10 h0, og0_10 h0, oc6 h0, of6_0 h0, og6_0 h0, of6_1 h0, og6_1 h0, of6_2 h0, og6_2 h0, of6_3 h0, og6_3 h0, of6_4 h0, og6_4 h0, ok6_4 h0, of6_5 h0, og6_5 h0, ok6_5 h0, of6_6 h0, og6_6 h0, ok6_6 h0, a1, nI_1]
/-! the reference -/
theorem m_year1 {X : Scr} {w : AW} {x : Nat} {ag le ti : Nat → Int32} {d : DS} (h0 : OK w) (h : hM w ag le ti d) (di : DI d) (hs : STc ag ti) (hx : x < 65537) : ∃ w', Z X 159 0 [.ref 64, .int (nI (x % 8)), .int (nI (x / 8 % 8)), .int (nI (x / 64)), uns, uns, uns] [] w = some (none, w') ∧ OK w' ∧ hM w' ag le ti (yr1 ag le ti d x) ∧ FM w w' := by
  have e5 : nI (x / 64) - nI (x / 64) / 8 * 8 = nI (x / 64 % 8) := pk_rem (d := 8) (by omega) (by decide) (by decide)
  have e6 : nI (x / 64) - nI (x / 64) / 10 * 10 = nI (x / 64 % 10) := pk_rem (d := 10) (by omega) (by decide) (by decide)
  have e7 : nI (x / 64) - nI (x / 64) / 16 * 16 = nI (x / 64 % 16) := pk_rem (d := 16) (by omega) (by decide) (by decide)
  have n8 : ¬ (8 : Int32) = 0 := by decide
  have n16 : ¬ (16 : Int32) = 0 := by decide
  have n10 : ¬ (1 : Int32) = 0 := by decide
  have hj : x % 8 < 8 := Nat.mod_lt _ (by decide)
  have ht : x / 64 % 8 < 8 := Nat.mod_lt _ (by decide)
  have w0 := m_why0 (X := X) (t := x / 64 % 8) h0 h hj
  have w1 := m_why1 (X := X) (j := x % 8) (t := x / 64 % 8) (y := nI (x / 64 % 8)) (x := 1) h0 h (Or.inl rfl)
  have w3 := m_why1 (X := X) (j := x % 8) (t := x / 64 % 8) (y := nI (x / 64 % 8)) (x := 3) h0 h (Or.inr rfl)
  have w2 := m_why2 (X := X) (t := x / 64 % 8) (y := nI (x / 64 % 8)) h0 h di hj
  have w4 := m_why4 (X := X) (j := x % 8) (t := x / 64 % 8) (x := nI (x % 8)) (y := nI (x / 64 % 8)) h0 h di hs
  obtain ⟨wl, a1, a2, a3, a4⟩ := m_h0 (X := X) (j := x % 8) (t := x / 64 % 8) (x := nI (x % 8)) h0 h
  obtain ⟨ws, b1, b2, b3, b4⟩ := m_say (X := X) (t := x / 64 % 10) h0 h di hj
  obtain ⟨wr, r1, r2, r3, r4⟩ := m_h2 (X := X) (t := x / 64 % 8) (y := nI (x / 64 % 8)) h0 h di hj
  obtain ⟨wf, f1, f2, f3, f4⟩ := m_h4 (X := X) (j := x % 8) (t := x / 64 % 8) (x := nI (x % 8)) (y := nI (x / 64 % 8)) h0 h hs
  obtain ⟨wd, d1, d2, d3, d4⟩ := m_h3 (X := X) (t := x / 64 % 8) (y := nI (x / 64 % 8)) h0 h di hs hj
  have hb : x / 8 % 8 < 8 := Nat.mod_lt _ (by decide)
  obtain ⟨y, hy⟩ : ∃ y, y = x / 8 % 8 := ⟨_, rfl⟩
  have ez : (nI (x / 64 % 16) = 0) = (x / 64 % 16 = 0) := eqN (b := 0) (by omega) (by decide)
  have z0 : nI 0 = 0 := rfl
  unfold yr1 dA
  rw [← hy] at hb ⊢
  have L3 : (nI y ≥ 3) = (3 ≤ y) := geN (b := 3) (by omega) (by decide)
  have L5 : (nI y ≥ 5) = (5 ≤ y) := geN (b := 5) (by omega) (by decide)
  have E5 : (nI y = 5) = (y = 5) := eqN (b := 5) (by omega) (by decide)
  have E6 : (nI y = 6) = (y = 6) := eqN (b := 6) (by omega) (by decide)
  have L7 : (nI y < 7) = (y < 7) := ltN (b := 7) (by omega) (by decide)
  by_cases c3 : y < 3
  · have k3 : ¬ 3 ≤ y := by omega
    have k7 : y < 7 := by omega
    have n01 : ¬ (0 : Int32) = 1 := by decide
    rw [if_pos c3]
    by_cases c : whyA ag ti d 0 (x % 8) (x / 64 % 8) = 0
    · rw [if_pos c]
      rw [c] at w0
      refine ⟨wl, ?_, a2, a3, a4⟩
      simp only [z159_0, z159_1, z159_3, z159_4, z159_6, z159_7, z159_8, z159_11, z159_12, z159_15, z159_16, z159_17, z159_20, z159_21, z159_24, z159_25, z159_26, z159_29, z159_30, z159_33, z159_34, z159_36, z159_39, z159_40, z159_43, z159_44, z159_46, z159_47, z159_49, z159_52, z159_53, z159_55, z159_56, z159_59, z159_60, z159_63, z159_64, z159_66, z159_68, z159_71, z159_72, z159_74, z159_75, z159_77, z159_80, z159_83, z159_84, z159_86, z159_87, z159_90, z159_91, z159_92, z159_93, z159_95, z159_96, z159_99, z159_102, z159_103, z159_105, z159_106, z159_108, z159_111, Option.bind_some, Option.toList_some, Option.toList_none, List.cons_append, List.nil_append, sc_i, sc_r, sc_l, sc_u, sc_s, List.length_nil, List.length_cons, Nat.reduceAdd, Nat.reduceLeDiff, Nat.zero_le, le4_0, le4_1, le4_2, le4_3, rz0, rz1, rzt, eq_self, tI_0, tI_n0, if_true, if_false, ne_eq, not_true_eq_false, not_false_eq_true, and_self, Bool.false_eq_true, sc_u, e5, n8, L3, k3, L7, k7, n10, n01, oc64 h0, of64_0 h0, og64_0 h0, ok64_0 h0, of64_1 h0, og64_1 h0, of64_2 h0, og64_2 h0, of64_3 h0, og64_3 h0, of64_4 h0, og64_4 h0, of64_5 h0, og64_5 h0, ok64_5 h0, of64_6 h0, og64_6 h0, ok64_6 h0, of64_7 h0, og64_7 h0, of64_8 h0, og64_8 h0, of64_9 h0, og64_9 h0, of64_10 h0, og64_10 h0, of64_11 h0, og64_11 h0, of64_12 h0, og64_12 h0, of64_13 h0, og64_13 h0, ok64_13 h0, of64_14 h0, og64_14 h0, of64_15 h0, og64_15 h0, ok64_15 h0, of64_16 h0, og64_16 h0, of64_17 h0, og64_17 h0, of64_18 h0, og64_18 h0, of64_19 h0, og64_19 h0, of64_20 h0, og64_20 h0, of64_21 h0, og64_21 h0, ok64_21 h0, of64_22 h0, og64_22 h0, of64_23 h0, og64_23 h0, ok64_23 h0, of64_24 h0, og64_24 h0, ok64_24 h0, of64_25 h0, og64_25 h0, ok64_25 h0, of64_26 h0, og64_26 h0, ok64_26 h0, of64_27 h0, og64_27 h0, ok64_27 h0, of64_28 h0, og64_28 h0, of64_29 h0, og64_29 h0, of64_30 h0, og64_30 h0, of64_31 h0, og64_31 h0, of64_32 h0, og64_32 h0, of64_33 h0, og64_33 h0, of64_34 h0, og64_34 h0, of64_35 h0, og64_35 h0, ok64_35 h0, of64_36 h0, og64_36 h0, ok64_36 h0, w0, a1]
    · rw [if_neg c]
      refine ⟨w, ?_, h0, h, fm_rf⟩
      simp only [z159_0, z159_1, z159_3, z159_4, z159_6, z159_7, z159_8, z159_11, z159_12, z159_15, z159_16, z159_17, z159_20, z159_21, z159_24, z159_25, z159_26, z159_29, z159_30, z159_33, z159_34, z159_36, z159_39, z159_40, z159_43, z159_44, z159_46, z159_47, z159_49, z159_52, z159_53, z159_55, z159_56, z159_59, z159_60, z159_63, z159_64, z159_66, z159_68, z159_71, z159_72, z159_74, z159_75, z159_77, z159_80, z159_83, z159_84, z159_86, z159_87, z159_90, z159_91, z159_92, z159_93, z159_95, z159_96, z159_99, z159_102, z159_103, z159_105, z159_106, z159_108, z159_111, Option.bind_some, Option.toList_some, Option.toList_none, List.cons_append, List.nil_append, sc_i, sc_r, sc_l, sc_u, sc_s, List.length_nil, List.length_cons, Nat.reduceAdd, Nat.reduceLeDiff, Nat.zero_le, le4_0, le4_1, le4_2, le4_3, rz0, rz1, rzt, eq_self, tI_0, tI_n0, if_true, if_false, ne_eq, not_true_eq_false, not_false_eq_true, and_self, Bool.false_eq_true, sc_u, e5, n8, L3, k3, L7, k7, n10, n01, oc64 h0, of64_0 h0, og64_0 h0, ok64_0 h0, of64_1 h0, og64_1 h0, of64_2 h0, og64_2 h0, of64_3 h0, og64_3 h0, of64_4 h0, og64_4 h0, of64_5 h0, og64_5 h0, ok64_5 h0, of64_6 h0, og64_6 h0, ok64_6 h0, of64_7 h0, og64_7 h0, of64_8 h0, og64_8 h0, of64_9 h0, og64_9 h0, of64_10 h0, og64_10 h0, of64_11 h0, og64_11 h0, of64_12 h0, og64_12 h0, of64_13 h0, og64_13 h0, ok64_13 h0, of64_14 h0, og64_14 h0, of64_15 h0, og64_15 h0, ok64_15 h0, of64_16 h0, og64_16 h0, of64_17 h0, og64_17 h0, of64_18 h0, og64_18 h0, of64_19 h0, og64_19 h0, of64_20 h0, og64_20 h0, of64_21 h0, og64_21 h0, ok64_21 h0, of64_22 h0, og64_22 h0, of64_23 h0, og64_23 h0, ok64_23 h0, of64_24 h0, og64_24 h0, ok64_24 h0, of64_25 h0, og64_25 h0, ok64_25 h0, of64_26 h0, og64_26 h0, ok64_26 h0, of64_27 h0, og64_27 h0, ok64_27 h0, of64_28 h0, og64_28 h0, of64_29 h0, og64_29 h0, of64_30 h0, og64_30 h0, of64_31 h0, og64_31 h0, of64_32 h0, og64_32 h0, of64_33 h0, og64_33 h0, of64_34 h0, og64_34 h0, of64_35 h0, og64_35 h0, ok64_35 h0, of64_36 h0, og64_36 h0, ok64_36 h0, w0, c]
  · have k3 : 3 ≤ y := by omega
    rw [if_neg c3]
    by_cases c5 : y < 5
    · have k5 : ¬ 5 ≤ y := by omega
      have k7 : y < 7 := by omega
      rw [if_pos c5]
      rw [why_1] at w1
      by_cases c : bq d.2.1 (x % 8) = true
      · rw [if_pos c] at w1 ⊢
        refine ⟨ws, ?_, b2, b3, b4⟩
        simp only [z159_0, z159_1, z159_3, z159_4, z159_6, z159_7, z159_8, z159_11, z159_12, z159_15, z159_16, z159_17, z159_20, z159_21, z159_24, z159_25, z159_26, z159_29, z159_30, z159_33, z159_34, z159_36, z159_39, z159_40, z159_43, z159_44, z159_46, z159_47, z159_49, z159_52, z159_53, z159_55, z159_56, z159_59, z159_60, z159_63, z159_64, z159_66, z159_68, z159_71, z159_72, z159_74, z159_75, z159_77, z159_80, z159_83, z159_84, z159_86, z159_87, z159_90, z159_91, z159_92, z159_93, z159_95, z159_96, z159_99, z159_102, z159_103, z159_105, z159_106, z159_108, z159_111, Option.bind_some, Option.toList_some, Option.toList_none, List.cons_append, List.nil_append, sc_i, sc_r, sc_l, sc_u, sc_s, List.length_nil, List.length_cons, Nat.reduceAdd, Nat.reduceLeDiff, Nat.zero_le, le4_0, le4_1, le4_2, le4_3, rz0, rz1, rzt, eq_self, tI_0, tI_n0, if_true, if_false, ne_eq, not_true_eq_false, not_false_eq_true, and_self, Bool.false_eq_true, sc_u, e5, e6, n8, i10, L3, k3, L5, k5, L7, k7, n10, oc64 h0, of64_0 h0, og64_0 h0, ok64_0 h0, of64_1 h0, og64_1 h0, of64_2 h0, og64_2 h0, of64_3 h0, og64_3 h0, of64_4 h0, og64_4 h0, of64_5 h0, og64_5 h0, ok64_5 h0, of64_6 h0, og64_6 h0, ok64_6 h0, of64_7 h0, og64_7 h0, of64_8 h0, og64_8 h0, of64_9 h0, og64_9 h0, of64_10 h0, og64_10 h0, of64_11 h0, og64_11 h0, of64_12 h0, og64_12 h0, of64_13 h0, og64_13 h0, ok64_13 h0, of64_14 h0, og64_14 h0, of64_15 h0, og64_15 h0, ok64_15 h0, of64_16 h0, og64_16 h0, of64_17 h0, og64_17 h0, of64_18 h0, og64_18 h0, of64_19 h0, og64_19 h0, of64_20 h0, og64_20 h0, of64_21 h0, og64_21 h0, ok64_21 h0, of64_22 h0, og64_22 h0, of64_23 h0, og64_23 h0, ok64_23 h0, of64_24 h0, og64_24 h0, ok64_24 h0, of64_25 h0, og64_25 h0, ok64_25 h0, of64_26 h0, og64_26 h0, ok64_26 h0, of64_27 h0, og64_27 h0, ok64_27 h0, of64_28 h0, og64_28 h0, of64_29 h0, og64_29 h0, of64_30 h0, og64_30 h0, of64_31 h0, og64_31 h0, of64_32 h0, og64_32 h0, of64_33 h0, og64_33 h0, of64_34 h0, og64_34 h0, of64_35 h0, og64_35 h0, ok64_35 h0, of64_36 h0, og64_36 h0, ok64_36 h0, w1, b1]
      · rw [if_neg c] at w1 ⊢
        refine ⟨w, ?_, h0, h, fm_rf⟩
        simp only [z159_0, z159_1, z159_3, z159_4, z159_6, z159_7, z159_8, z159_11, z159_12, z159_15, z159_16, z159_17, z159_20, z159_21, z159_24, z159_25, z159_26, z159_29, z159_30, z159_33, z159_34, z159_36, z159_39, z159_40, z159_43, z159_44, z159_46, z159_47, z159_49, z159_52, z159_53, z159_55, z159_56, z159_59, z159_60, z159_63, z159_64, z159_66, z159_68, z159_71, z159_72, z159_74, z159_75, z159_77, z159_80, z159_83, z159_84, z159_86, z159_87, z159_90, z159_91, z159_92, z159_93, z159_95, z159_96, z159_99, z159_102, z159_103, z159_105, z159_106, z159_108, z159_111, Option.bind_some, Option.toList_some, Option.toList_none, List.cons_append, List.nil_append, sc_i, sc_r, sc_l, sc_u, sc_s, List.length_nil, List.length_cons, Nat.reduceAdd, Nat.reduceLeDiff, Nat.zero_le, le4_0, le4_1, le4_2, le4_3, rz0, rz1, rzt, eq_self, tI_0, tI_n0, if_true, if_false, ne_eq, not_true_eq_false, not_false_eq_true, and_self, Bool.false_eq_true, sc_u, e5, n8, L3, k3, L5, k5, L7, k7, n10, oc64 h0, of64_0 h0, og64_0 h0, ok64_0 h0, of64_1 h0, og64_1 h0, of64_2 h0, og64_2 h0, of64_3 h0, og64_3 h0, of64_4 h0, og64_4 h0, of64_5 h0, og64_5 h0, ok64_5 h0, of64_6 h0, og64_6 h0, ok64_6 h0, of64_7 h0, og64_7 h0, of64_8 h0, og64_8 h0, of64_9 h0, og64_9 h0, of64_10 h0, og64_10 h0, of64_11 h0, og64_11 h0, of64_12 h0, og64_12 h0, of64_13 h0, og64_13 h0, ok64_13 h0, of64_14 h0, og64_14 h0, of64_15 h0, og64_15 h0, ok64_15 h0, of64_16 h0, og64_16 h0, of64_17 h0, og64_17 h0, of64_18 h0, og64_18 h0, of64_19 h0, og64_19 h0, of64_20 h0, og64_20 h0, of64_21 h0, og64_21 h0, ok64_21 h0, of64_22 h0, og64_22 h0, of64_23 h0, og64_23 h0, ok64_23 h0, of64_24 h0, og64_24 h0, ok64_24 h0, of64_25 h0, og64_25 h0, ok64_25 h0, of64_26 h0, og64_26 h0, ok64_26 h0, of64_27 h0, og64_27 h0, ok64_27 h0, of64_28 h0, og64_28 h0, of64_29 h0, og64_29 h0, of64_30 h0, og64_30 h0, of64_31 h0, og64_31 h0, of64_32 h0, og64_32 h0, of64_33 h0, og64_33 h0, of64_34 h0, og64_34 h0, of64_35 h0, og64_35 h0, ok64_35 h0, of64_36 h0, og64_36 h0, ok64_36 h0, w1]
    · have k5 : 5 ≤ y := by omega
      rw [if_neg c5]
      by_cases d5 : y = 5
      · have k7 : y < 7 := by omega
        have n21 : ¬ (2 : Int32) = 1 := by decide
        have d5' : (y = 5) = True := eq_true d5
        rw [if_pos d5]
        by_cases c : whyA ag ti d 2 (x % 8) (x / 64 % 8) = 0
        · rw [if_pos c]
          rw [c] at w2
          refine ⟨wr, ?_, r2, r3, r4⟩
          simp only [z159_0, z159_1, z159_3, z159_4, z159_6, z159_7, z159_8, z159_11, z159_12, z159_15, z159_16, z159_17, z159_20, z159_21, z159_24, z159_25, z159_26, z159_29, z159_30, z159_33, z159_34, z159_36, z159_39, z159_40, z159_43, z159_44, z159_46, z159_47, z159_49, z159_52, z159_53, z159_55, z159_56, z159_59, z159_60, z159_63, z159_64, z159_66, z159_68, z159_71, z159_72, z159_74, z159_75, z159_77, z159_80, z159_83, z159_84, z159_86, z159_87, z159_90, z159_91, z159_92, z159_93, z159_95, z159_96, z159_99, z159_102, z159_103, z159_105, z159_106, z159_108, z159_111, Option.bind_some, Option.toList_some, Option.toList_none, List.cons_append, List.nil_append, sc_i, sc_r, sc_l, sc_u, sc_s, List.length_nil, List.length_cons, Nat.reduceAdd, Nat.reduceLeDiff, Nat.zero_le, le4_0, le4_1, le4_2, le4_3, rz0, rz1, rzt, eq_self, tI_0, tI_n0, if_true, if_false, ne_eq, not_true_eq_false, not_false_eq_true, and_self, Bool.false_eq_true, sc_u, e5, n8, L3, k3, L5, k5, E5, d5', L7, k7, n10, n21, oc64 h0, of64_0 h0, og64_0 h0, ok64_0 h0, of64_1 h0, og64_1 h0, of64_2 h0, og64_2 h0, of64_3 h0, og64_3 h0, of64_4 h0, og64_4 h0, of64_5 h0, og64_5 h0, ok64_5 h0, of64_6 h0, og64_6 h0, ok64_6 h0, of64_7 h0, og64_7 h0, of64_8 h0, og64_8 h0, of64_9 h0, og64_9 h0, of64_10 h0, og64_10 h0, of64_11 h0, og64_11 h0, of64_12 h0, og64_12 h0, of64_13 h0, og64_13 h0, ok64_13 h0, of64_14 h0, og64_14 h0, of64_15 h0, og64_15 h0, ok64_15 h0, of64_16 h0, og64_16 h0, of64_17 h0, og64_17 h0, of64_18 h0, og64_18 h0, of64_19 h0, og64_19 h0, of64_20 h0, og64_20 h0, of64_21 h0, og64_21 h0, ok64_21 h0, of64_22 h0, og64_22 h0, of64_23 h0, og64_23 h0, ok64_23 h0, of64_24 h0, og64_24 h0, ok64_24 h0, of64_25 h0, og64_25 h0, ok64_25 h0, of64_26 h0, og64_26 h0, ok64_26 h0, of64_27 h0, og64_27 h0, ok64_27 h0, of64_28 h0, og64_28 h0, of64_29 h0, og64_29 h0, of64_30 h0, og64_30 h0, of64_31 h0, og64_31 h0, of64_32 h0, og64_32 h0, of64_33 h0, og64_33 h0, of64_34 h0, og64_34 h0, of64_35 h0, og64_35 h0, ok64_35 h0, of64_36 h0, og64_36 h0, ok64_36 h0, w2, r1]
        · rw [if_neg c]
          refine ⟨w, ?_, h0, h, fm_rf⟩
          simp only [z159_0, z159_1, z159_3, z159_4, z159_6, z159_7, z159_8, z159_11, z159_12, z159_15, z159_16, z159_17, z159_20, z159_21, z159_24, z159_25, z159_26, z159_29, z159_30, z159_33, z159_34, z159_36, z159_39, z159_40, z159_43, z159_44, z159_46, z159_47, z159_49, z159_52, z159_53, z159_55, z159_56, z159_59, z159_60, z159_63, z159_64, z159_66, z159_68, z159_71, z159_72, z159_74, z159_75, z159_77, z159_80, z159_83, z159_84, z159_86, z159_87, z159_90, z159_91, z159_92, z159_93, z159_95, z159_96, z159_99, z159_102, z159_103, z159_105, z159_106, z159_108, z159_111, Option.bind_some, Option.toList_some, Option.toList_none, List.cons_append, List.nil_append, sc_i, sc_r, sc_l, sc_u, sc_s, List.length_nil, List.length_cons, Nat.reduceAdd, Nat.reduceLeDiff, Nat.zero_le, le4_0, le4_1, le4_2, le4_3, rz0, rz1, rzt, eq_self, tI_0, tI_n0, if_true, if_false, ne_eq, not_true_eq_false, not_false_eq_true, and_self, Bool.false_eq_true, sc_u, e5, n8, L3, k3, L5, k5, E5, d5', L7, k7, n10, n21, oc64 h0, of64_0 h0, og64_0 h0, ok64_0 h0, of64_1 h0, og64_1 h0, of64_2 h0, og64_2 h0, of64_3 h0, og64_3 h0, of64_4 h0, og64_4 h0, of64_5 h0, og64_5 h0, ok64_5 h0, of64_6 h0, og64_6 h0, ok64_6 h0, of64_7 h0, og64_7 h0, of64_8 h0, og64_8 h0, of64_9 h0, og64_9 h0, of64_10 h0, og64_10 h0, of64_11 h0, og64_11 h0, of64_12 h0, og64_12 h0, of64_13 h0, og64_13 h0, ok64_13 h0, of64_14 h0, og64_14 h0, of64_15 h0, og64_15 h0, ok64_15 h0, of64_16 h0, og64_16 h0, of64_17 h0, og64_17 h0, of64_18 h0, og64_18 h0, of64_19 h0, og64_19 h0, of64_20 h0, og64_20 h0, of64_21 h0, og64_21 h0, ok64_21 h0, of64_22 h0, og64_22 h0, of64_23 h0, og64_23 h0, ok64_23 h0, of64_24 h0, og64_24 h0, ok64_24 h0, of64_25 h0, og64_25 h0, ok64_25 h0, of64_26 h0, og64_26 h0, ok64_26 h0, of64_27 h0, og64_27 h0, ok64_27 h0, of64_28 h0, og64_28 h0, of64_29 h0, og64_29 h0, of64_30 h0, og64_30 h0, of64_31 h0, og64_31 h0, of64_32 h0, og64_32 h0, of64_33 h0, og64_33 h0, of64_34 h0, og64_34 h0, of64_35 h0, og64_35 h0, ok64_35 h0, of64_36 h0, og64_36 h0, ok64_36 h0, w2, c]
      · rw [if_neg d5]
        by_cases d6 : y = 6
        · have k7 : y < 7 := by omega
          have n41 : ¬ (4 : Int32) = 1 := by decide
          have d6' : (y = 6) = True := eq_true d6
          rw [if_pos d6]
          by_cases c : whyA ag ti d 4 (x % 8) (x / 64 % 8) = 0
          · rw [if_pos c]
            rw [c] at w4
            refine ⟨wf, ?_, f2, f3, f4⟩
            simp only [z159_0, z159_1, z159_3, z159_4, z159_6, z159_7, z159_8, z159_11, z159_12, z159_15, z159_16, z159_17, z159_20, z159_21, z159_24, z159_25, z159_26, z159_29, z159_30, z159_33, z159_34, z159_36, z159_39, z159_40, z159_43, z159_44, z159_46, z159_47, z159_49, z159_52, z159_53, z159_55, z159_56, z159_59, z159_60, z159_63, z159_64, z159_66, z159_68, z159_71, z159_72, z159_74, z159_75, z159_77, z159_80, z159_83, z159_84, z159_86, z159_87, z159_90, z159_91, z159_92, z159_93, z159_95, z159_96, z159_99, z159_102, z159_103, z159_105, z159_106, z159_108, z159_111, Option.bind_some, Option.toList_some, Option.toList_none, List.cons_append, List.nil_append, sc_i, sc_r, sc_l, sc_u, sc_s, List.length_nil, List.length_cons, Nat.reduceAdd, Nat.reduceLeDiff, Nat.zero_le, le4_0, le4_1, le4_2, le4_3, rz0, rz1, rzt, eq_self, tI_0, tI_n0, if_true, if_false, ne_eq, not_true_eq_false, not_false_eq_true, and_self, Bool.false_eq_true, sc_u, e5, n8, L3, k3, L5, k5, E5, d5, E6, d6', L7, k7, n10, n41, oc64 h0, of64_0 h0, og64_0 h0, ok64_0 h0, of64_1 h0, og64_1 h0, of64_2 h0, og64_2 h0, of64_3 h0, og64_3 h0, of64_4 h0, og64_4 h0, of64_5 h0, og64_5 h0, ok64_5 h0, of64_6 h0, og64_6 h0, ok64_6 h0, of64_7 h0, og64_7 h0, of64_8 h0, og64_8 h0, of64_9 h0, og64_9 h0, of64_10 h0, og64_10 h0, of64_11 h0, og64_11 h0, of64_12 h0, og64_12 h0, of64_13 h0, og64_13 h0, ok64_13 h0, of64_14 h0, og64_14 h0, of64_15 h0, og64_15 h0, ok64_15 h0, of64_16 h0, og64_16 h0, of64_17 h0, og64_17 h0, of64_18 h0, og64_18 h0, of64_19 h0, og64_19 h0, of64_20 h0, og64_20 h0, of64_21 h0, og64_21 h0, ok64_21 h0, of64_22 h0, og64_22 h0, of64_23 h0, og64_23 h0, ok64_23 h0, of64_24 h0, og64_24 h0, ok64_24 h0, of64_25 h0, og64_25 h0, ok64_25 h0, of64_26 h0, og64_26 h0, ok64_26 h0, of64_27 h0, og64_27 h0, ok64_27 h0, of64_28 h0, og64_28 h0, of64_29 h0, og64_29 h0, of64_30 h0, og64_30 h0, of64_31 h0, og64_31 h0, of64_32 h0, og64_32 h0, of64_33 h0, og64_33 h0, of64_34 h0, og64_34 h0, of64_35 h0, og64_35 h0, ok64_35 h0, of64_36 h0, og64_36 h0, ok64_36 h0, w4, f1]
          · rw [if_neg c]
            refine ⟨w, ?_, h0, h, fm_rf⟩
            simp only [z159_0, z159_1, z159_3, z159_4, z159_6, z159_7, z159_8, z159_11, z159_12, z159_15, z159_16, z159_17, z159_20, z159_21, z159_24, z159_25, z159_26, z159_29, z159_30, z159_33, z159_34, z159_36, z159_39, z159_40, z159_43, z159_44, z159_46, z159_47, z159_49, z159_52, z159_53, z159_55, z159_56, z159_59, z159_60, z159_63, z159_64, z159_66, z159_68, z159_71, z159_72, z159_74, z159_75, z159_77, z159_80, z159_83, z159_84, z159_86, z159_87, z159_90, z159_91, z159_92, z159_93, z159_95, z159_96, z159_99, z159_102, z159_103, z159_105, z159_106, z159_108, z159_111, Option.bind_some, Option.toList_some, Option.toList_none, List.cons_append, List.nil_append, sc_i, sc_r, sc_l, sc_u, sc_s, List.length_nil, List.length_cons, Nat.reduceAdd, Nat.reduceLeDiff, Nat.zero_le, le4_0, le4_1, le4_2, le4_3, rz0, rz1, rzt, eq_self, tI_0, tI_n0, if_true, if_false, ne_eq, not_true_eq_false, not_false_eq_true, and_self, Bool.false_eq_true, sc_u, e5, n8, L3, k3, L5, k5, E5, d5, E6, d6', L7, k7, n10, n41, oc64 h0, of64_0 h0, og64_0 h0, ok64_0 h0, of64_1 h0, og64_1 h0, of64_2 h0, og64_2 h0, of64_3 h0, og64_3 h0, of64_4 h0, og64_4 h0, of64_5 h0, og64_5 h0, ok64_5 h0, of64_6 h0, og64_6 h0, ok64_6 h0, of64_7 h0, og64_7 h0, of64_8 h0, og64_8 h0, of64_9 h0, og64_9 h0, of64_10 h0, og64_10 h0, of64_11 h0, og64_11 h0, of64_12 h0, og64_12 h0, of64_13 h0, og64_13 h0, ok64_13 h0, of64_14 h0, og64_14 h0, of64_15 h0, og64_15 h0, ok64_15 h0, of64_16 h0, og64_16 h0, of64_17 h0, og64_17 h0, of64_18 h0, og64_18 h0, of64_19 h0, og64_19 h0, of64_20 h0, og64_20 h0, of64_21 h0, og64_21 h0, ok64_21 h0, of64_22 h0, og64_22 h0, of64_23 h0, og64_23 h0, ok64_23 h0, of64_24 h0, og64_24 h0, ok64_24 h0, of64_25 h0, og64_25 h0, ok64_25 h0, of64_26 h0, og64_26 h0, ok64_26 h0, of64_27 h0, og64_27 h0, ok64_27 h0, of64_28 h0, og64_28 h0, of64_29 h0, og64_29 h0, of64_30 h0, og64_30 h0, of64_31 h0, og64_31 h0, of64_32 h0, og64_32 h0, of64_33 h0, og64_33 h0, of64_34 h0, og64_34 h0, of64_35 h0, og64_35 h0, ok64_35 h0, of64_36 h0, og64_36 h0, ok64_36 h0, w4, c]
        · have k7 : ¬ y < 7 := by omega
          have n31 : ¬ (3 : Int32) = 1 := by decide
          rw [if_neg d6]
          by_cases cz : x / 64 % 16 = 0
          · rw [if_pos cz]
            by_cases c : whyA ag ti d 3 (x % 8) (x / 64 % 8) = 0
            · rw [if_pos c]
              have w3' : Z X 122 0 [.ref 64, .int 3, .int (nI (x % 8)), .int (nI (x / 64 % 8))] [] w = some (some (.int 0), w) := w3.trans (by rw [show whyA ag ti d 1 (x % 8) (x / 64 % 8) = whyA ag ti d 3 (x % 8) (x / 64 % 8) from rfl, c])
              refine ⟨wd, ?_, d2, d3, d4⟩
              simp only [z159_0, z159_1, z159_3, z159_4, z159_6, z159_7, z159_8, z159_11, z159_12, z159_15, z159_16, z159_17, z159_20, z159_21, z159_24, z159_25, z159_26, z159_29, z159_30, z159_33, z159_34, z159_36, z159_39, z159_40, z159_43, z159_44, z159_46, z159_47, z159_49, z159_52, z159_53, z159_55, z159_56, z159_59, z159_60, z159_63, z159_64, z159_66, z159_68, z159_71, z159_72, z159_74, z159_75, z159_77, z159_80, z159_83, z159_84, z159_86, z159_87, z159_90, z159_91, z159_92, z159_93, z159_95, z159_96, z159_99, z159_102, z159_103, z159_105, z159_106, z159_108, z159_111, Option.bind_some, Option.toList_some, Option.toList_none, List.cons_append, List.nil_append, sc_i, sc_r, sc_l, sc_u, sc_s, List.length_nil, List.length_cons, Nat.reduceAdd, Nat.reduceLeDiff, Nat.zero_le, le4_0, le4_1, le4_2, le4_3, rz0, rz1, rzt, eq_self, tI_0, tI_n0, if_true, if_false, ne_eq, not_true_eq_false, not_false_eq_true, and_self, Bool.false_eq_true, sc_u, e5, e7, ez, cz, z0, n8, n16, L3, k3, L5, k5, E5, d5, E6, d6, L7, k7, n10, n31, oc64 h0, of64_0 h0, og64_0 h0, ok64_0 h0, of64_1 h0, og64_1 h0, of64_2 h0, og64_2 h0, of64_3 h0, og64_3 h0, of64_4 h0, og64_4 h0, of64_5 h0, og64_5 h0, ok64_5 h0, of64_6 h0, og64_6 h0, ok64_6 h0, of64_7 h0, og64_7 h0, of64_8 h0, og64_8 h0, of64_9 h0, og64_9 h0, of64_10 h0, og64_10 h0, of64_11 h0, og64_11 h0, of64_12 h0, og64_12 h0, of64_13 h0, og64_13 h0, ok64_13 h0, of64_14 h0, og64_14 h0, of64_15 h0, og64_15 h0, ok64_15 h0, of64_16 h0, og64_16 h0, of64_17 h0, og64_17 h0, of64_18 h0, og64_18 h0, of64_19 h0, og64_19 h0, of64_20 h0, og64_20 h0, of64_21 h0, og64_21 h0, ok64_21 h0, of64_22 h0, og64_22 h0, of64_23 h0, og64_23 h0, ok64_23 h0, of64_24 h0, og64_24 h0, ok64_24 h0, of64_25 h0, og64_25 h0, ok64_25 h0, of64_26 h0, og64_26 h0, ok64_26 h0, of64_27 h0, og64_27 h0, ok64_27 h0, of64_28 h0, og64_28 h0, of64_29 h0, og64_29 h0, of64_30 h0, og64_30 h0, of64_31 h0, og64_31 h0, of64_32 h0, og64_32 h0, of64_33 h0, og64_33 h0, of64_34 h0, og64_34 h0, of64_35 h0, og64_35 h0, ok64_35 h0, of64_36 h0, og64_36 h0, ok64_36 h0, w3', d1]
            · rw [if_neg c]
              refine ⟨w, ?_, h0, h, fm_rf⟩
              have c1 : ¬ whyA ag ti d 1 (x % 8) (x / 64 % 8) = 0 := c
              simp only [z159_0, z159_1, z159_3, z159_4, z159_6, z159_7, z159_8, z159_11, z159_12, z159_15, z159_16, z159_17, z159_20, z159_21, z159_24, z159_25, z159_26, z159_29, z159_30, z159_33, z159_34, z159_36, z159_39, z159_40, z159_43, z159_44, z159_46, z159_47, z159_49, z159_52, z159_53, z159_55, z159_56, z159_59, z159_60, z159_63, z159_64, z159_66, z159_68, z159_71, z159_72, z159_74, z159_75, z159_77, z159_80, z159_83, z159_84, z159_86, z159_87, z159_90, z159_91, z159_92, z159_93, z159_95, z159_96, z159_99, z159_102, z159_103, z159_105, z159_106, z159_108, z159_111, Option.bind_some, Option.toList_some, Option.toList_none, List.cons_append, List.nil_append, sc_i, sc_r, sc_l, sc_u, sc_s, List.length_nil, List.length_cons, Nat.reduceAdd, Nat.reduceLeDiff, Nat.zero_le, le4_0, le4_1, le4_2, le4_3, rz0, rz1, rzt, eq_self, tI_0, tI_n0, if_true, if_false, ne_eq, not_true_eq_false, not_false_eq_true, and_self, Bool.false_eq_true, sc_u, e5, e7, ez, cz, z0, n8, n16, L3, k3, L5, k5, E5, d5, E6, d6, L7, k7, n10, n31, oc64 h0, of64_0 h0, og64_0 h0, ok64_0 h0, of64_1 h0, og64_1 h0, of64_2 h0, og64_2 h0, of64_3 h0, og64_3 h0, of64_4 h0, og64_4 h0, of64_5 h0, og64_5 h0, ok64_5 h0, of64_6 h0, og64_6 h0, ok64_6 h0, of64_7 h0, og64_7 h0, of64_8 h0, og64_8 h0, of64_9 h0, og64_9 h0, of64_10 h0, og64_10 h0, of64_11 h0, og64_11 h0, of64_12 h0, og64_12 h0, of64_13 h0, og64_13 h0, ok64_13 h0, of64_14 h0, og64_14 h0, of64_15 h0, og64_15 h0, ok64_15 h0, of64_16 h0, og64_16 h0, of64_17 h0, og64_17 h0, of64_18 h0, og64_18 h0, of64_19 h0, og64_19 h0, of64_20 h0, og64_20 h0, of64_21 h0, og64_21 h0, ok64_21 h0, of64_22 h0, og64_22 h0, of64_23 h0, og64_23 h0, ok64_23 h0, of64_24 h0, og64_24 h0, ok64_24 h0, of64_25 h0, og64_25 h0, ok64_25 h0, of64_26 h0, og64_26 h0, ok64_26 h0, of64_27 h0, og64_27 h0, ok64_27 h0, of64_28 h0, og64_28 h0, of64_29 h0, og64_29 h0, of64_30 h0, og64_30 h0, of64_31 h0, og64_31 h0, of64_32 h0, og64_32 h0, of64_33 h0, og64_33 h0, of64_34 h0, og64_34 h0, of64_35 h0, og64_35 h0, ok64_35 h0, of64_36 h0, og64_36 h0, ok64_36 h0, w3, c1]
          · rw [if_neg cz]
            refine ⟨w, ?_, h0, h, fm_rf⟩
            simp only [z159_0, z159_1, z159_3, z159_4, z159_6, z159_7, z159_8, z159_11, z159_12, z159_15, z159_16, z159_17, z159_20, z159_21, z159_24, z159_25, z159_26, z159_29, z159_30, z159_33, z159_34, z159_36, z159_39, z159_40, z159_43, z159_44, z159_46, z159_47, z159_49, z159_52, z159_53, z159_55, z159_56, z159_59, z159_60, z159_63, z159_64, z159_66, z159_68, z159_71, z159_72, z159_74, z159_75, z159_77, z159_80, z159_83, z159_84, z159_86, z159_87, z159_90, z159_91, z159_92, z159_93, z159_95, z159_96, z159_99, z159_102, z159_103, z159_105, z159_106, z159_108, z159_111, Option.bind_some, Option.toList_some, Option.toList_none, List.cons_append, List.nil_append, sc_i, sc_r, sc_l, sc_u, sc_s, List.length_nil, List.length_cons, Nat.reduceAdd, Nat.reduceLeDiff, Nat.zero_le, le4_0, le4_1, le4_2, le4_3, rz0, rz1, rzt, eq_self, tI_0, tI_n0, if_true, if_false, ne_eq, not_true_eq_false, not_false_eq_true, and_self, Bool.false_eq_true, sc_u, e5, e7, ez, cz, n8, n16, L3, k3, L5, k5, E5, d5, E6, d6, L7, k7]
