/-! the reference's day -/
def FD (w w' : AW) : Prop := (∀ a, ¬ a = 66 → aget w' a = aget w a) ∧ ∀ f k, ¬ (64 = f ∧ (k = 0 ∨ k = 5 ∨ k = 6 ∨ k = 23 ∨ k = 24 ∨ k = 26 ∨ k = 27)) → fI w' f k = fI w f k
theorem fd_rf {w : AW} : FD w w := ⟨fun _ _ => rfl, fun _ _ _ => rfl⟩
theorem fd_tr {a b c : AW} (h : FD a b) (h' : FD b c) : FD a c := ⟨fun x q => (h'.1 x q).trans (h.1 x q), fun f k z => (h'.2 f k z).trans (h.2 f k z)⟩
theorem fd_f {k : Nat} {w : AW} {v : Value} (h : k = 23 ∨ k = 24 ∨ k = 26 ∨ k = 27) : FD w (fset w 64 k v) := ⟨fun x _ => ag_f, fun f k' z => fi_n (fun e => z ⟨e.1, by omega⟩)⟩
theorem fd_m {w w' : AW} (h : FM w w') : FD w w' := ⟨h.1, fun f k z => h.2 f k (fun e => z ⟨e.1, by omega⟩)⟩
theorem hM_of {w : AW} {k : Nat} {v : Value} {ag le ti : Nat → Int32} {d : DS} (h : hM w ag le ti d) (hk : ¬ k = 0 ∧ ¬ k = 5 ∧ ¬ k = 6) : hM (fset w 64 k v) ag le ti d := by
  obtain ⟨h1, h2, h3, h4⟩ := h
  refine ⟨fun i hi => ?_, (fi_n (by omega)).trans h2, (fi_n (by omega)).trans h3, (fi_n (by omega)).trans h4⟩
  rw [ag_f, ag_f, ag_f, ag_f]; exact h1 i hi
/-- tables and text of the reference -/
def TB (g : Nat → Int32) (c b : Nat) (w : AW) : Prop := (∀ k, k < b → tabP g c w k (plc g c k)) ∧ (∀ t, t < 60 → aget w 75 t = g t) ∧ fI w 64 21 = nI b
theorem tb_fd {g : Nat → Int32} {c b : Nat} {w w' : AW} (h : TB g c b w) (f : FD w w') : TB g c b w' := by
  obtain ⟨h1, h2, h3⟩ := h
  refine ⟨fun k hk => tab_c (h1 k hk) ?_ ?_ ?_ ?_ ?_, fun t ht => ?_, (f.2 64 21 (by decide)).trans h3⟩
  · rw [f.1 76 (by decide)]
  · rw [f.1 77 (by decide)]
  · rw [f.1 78 (by decide)]
  · rw [f.1 79 (by decide)]
  · rw [f.1 80 (by decide)]
  · rw [f.1 75 (by decide)]; exact h2 t ht
def FG (w w' : AW) : Prop := (∀ a, ¬ a = 66 → aget w' a = aget w a) ∧ ∀ f k, ¬ (64 = f ∧ (k = 0 ∨ k = 5 ∨ k = 6 ∨ k = 26 ∨ k = 27)) → fI w' f k = fI w f k
theorem fg_rf {w : AW} : FG w w := ⟨fun _ _ => rfl, fun _ _ _ => rfl⟩
theorem fg_tr {a b c : AW} (h : FG a b) (h' : FG b c) : FG a c := ⟨fun x q => (h'.1 x q).trans (h.1 x q), fun f k z => (h'.2 f k z).trans (h.2 f k z)⟩
theorem fg_f {k : Nat} {w : AW} {v : Value} (h : k = 26 ∨ k = 27) : FG w (fset w 64 k v) := ⟨fun x _ => ag_f, fun f k' z => fi_n (fun e => z ⟨e.1, by omega⟩)⟩
theorem fg_m {w w' : AW} (h : FM w w') : FG w w' := ⟨h.1, fun f k z => h.2 f k (fun e => z ⟨e.1, by omega⟩)⟩
theorem fg_fd {w w' : AW} (h : FG w w') : FD w w' := ⟨h.1, fun f k z => h.2 f k (fun e => z ⟨e.1, by omega⟩)⟩
/-- the end of one act: who saved first -/
theorem x_g1e {X : Scr} {w : AW} {k : Nat} {fa fk sv who : Int32} {v3 : Value} (h0 : OK w) (hk : k < 60) (h26 : fI w 64 26 = fa) (h27 : fI w 64 27 = fk) (hfa : fa = -6 ∨ ∃ m, m < 60 ∧ fa = nI m) (hwho : aget w 77 k = who) : ∃ w', Z X 124 82 [.ref 64, .int (nI k), .int sv, v3] [] w = some (none, w') ∧ OK w' ∧ (∀ ag le ti d, hM w ag le ti d → hM w' ag le ti d) ∧ fI w' 64 26 = (if fa = -6 ∧ sv < fI w 64 6 then nI k else fa) ∧ fI w' 64 27 = (if fa = -6 ∧ sv < fI w 64 6 then who else fk) ∧ FG w w' := by
  by_cases c1 : sv < fI w 64 6
  · have c1' : ¬ fI w 64 6 ≤ sv := i32_nle.mpr c1
    rcases hfa with rfl | ⟨m, hm, rfl⟩
    · have e6 : ¬ (-6 : Int32) ≥ 0 := by decide
      rw [if_pos ⟨rfl, c1⟩, if_pos ⟨rfl, c1⟩]
      have ok1 : OK (fset w 64 26 (.int (nI k))) := ok_f h0 (by decide)
      refine ⟨fset (fset w 64 26 (.int (nI k))) 64 27 (.int who), ?_, ok_f ok1 (by decide), fun ag le ti d h => hM_of (hM_of h (by decide)) (by decide), ?_, ?_, fg_tr (fg_f (by decide)) (fg_f (by decide))⟩
      · simp only [z124_82, z124_83, z124_86, z124_87, z124_90, z124_91, z124_94, z124_97, z124_98, z124_99, z124_102, z124_103, z124_104, z124_107, z124_108, z124_109, z124_112, Option.bind_some, Option.toList_some, Option.toList_none, List.cons_append, List.nil_append, sc_i, sc_r, sc_l, sc_u, sc_s, List.length_nil, List.length_cons, Nat.reduceAdd, Nat.reduceLeDiff, Nat.zero_le, le4_0, le4_1, le4_2, le4_3, rz0, rz1, rzt, eq_self, fo_f, fo_a, fo_j, co_f, co_a, co_j, ao_f, ao_a, ao_j, zo_f, zo_a, zo_j, jo_f, jo_a, jo_j, al_f, al_a, al_j, fg_a, fg_j, ag_f, ag_j, jg_f, jg_a, fk_f, fk_a, fk_j, fi_a, fi_j, tI_0, tI_n0, if_true, if_false, ne_eq, not_true_eq_false, not_false_eq_true, and_self, Bool.false_eq_true, ag_s, ag_z, ag_n, fi_s, fi_n, fg_s, fg_n, jg_s, jg_n, Nat.reduceEqDiff, not_false_eq_true, and_false, false_and, true_and, and_true, and_self, oc64 h0, of64_0 h0, og64_0 h0, ok64_0 h0, of64_1 h0, og64_1 h0, of64_2 h0, og64_2 h0, of64_3 h0, og64_3 h0, of64_4 h0, og64_4 h0, of64_5 h0, og64_5 h0, ok64_5 h0, of64_6 h0, og64_6 h0, ok64_6 h0, of64_7 h0, og64_7 h0, of64_8 h0, og64_8 h0, of64_9 h0, og64_9 h0, of64_10 h0, og64_10 h0, of64_11 h0, og64_11 h0, of64_12 h0, og64_12 h0, of64_13 h0, og64_13 h0, ok64_13 h0, of64_14 h0, og64_14 h0, of64_15 h0, og64_15 h0, ok64_15 h0, of64_16 h0, og64_16 h0, of64_17 h0, og64_17 h0, of64_18 h0, og64_18 h0, of64_19 h0, og64_19 h0, of64_20 h0, og64_20 h0, of64_21 h0, og64_21 h0, ok64_21 h0, of64_22 h0, og64_22 h0, of64_23 h0, og64_23 h0, ok64_23 h0, of64_24 h0, og64_24 h0, ok64_24 h0, of64_25 h0, og64_25 h0, ok64_25 h0, of64_26 h0, og64_26 h0, ok64_26 h0, of64_27 h0, og64_27 h0, ok64_27 h0, of64_28 h0, og64_28 h0, of64_29 h0, og64_29 h0, of64_30 h0, og64_30 h0, of64_31 h0, og64_31 h0, of64_32 h0, og64_32 h0, of64_33 h0, og64_33 h0, of64_34 h0, og64_34 h0, of64_35 h0, og64_35 h0, ok64_35 h0, of64_36 h0, og64_36 h0, ok64_36 h0, oa77 h0, ol77 h0, c1', h26, e6, b60 hk, c60 hk, hwho]
      · rw [fi_n (by decide), fi_s (ok64_26 h0)]
      · rw [fi_s (ok64_27 ok1)]
    · have e6 : nI m ≥ 0 := nI_pos' (by omega)
      have n6 := nI_n6 (show m < 1000 by omega)
      rw [if_neg (fun q => n6 q.1), if_neg (fun q => n6 q.1)]
      refine ⟨w, ?_, h0, fun ag le ti d h => h, h26, h27, fg_rf⟩
      simp only [z124_82, z124_83, z124_86, z124_87, z124_90, z124_91, z124_94, z124_97, z124_98, z124_99, z124_102, z124_103, z124_104, z124_107, z124_108, z124_109, z124_112, Option.bind_some, Option.toList_some, Option.toList_none, List.cons_append, List.nil_append, sc_i, sc_r, sc_l, sc_u, sc_s, List.length_nil, List.length_cons, Nat.reduceAdd, Nat.reduceLeDiff, Nat.zero_le, le4_0, le4_1, le4_2, le4_3, rz0, rz1, rzt, eq_self, fo_f, fo_a, fo_j, co_f, co_a, co_j, ao_f, ao_a, ao_j, zo_f, zo_a, zo_j, jo_f, jo_a, jo_j, al_f, al_a, al_j, fg_a, fg_j, ag_f, ag_j, jg_f, jg_a, fk_f, fk_a, fk_j, fi_a, fi_j, tI_0, tI_n0, if_true, if_false, ne_eq, not_true_eq_false, not_false_eq_true, and_self, Bool.false_eq_true, oc64 h0, of64_0 h0, og64_0 h0, ok64_0 h0, of64_1 h0, og64_1 h0, of64_2 h0, og64_2 h0, of64_3 h0, og64_3 h0, of64_4 h0, og64_4 h0, of64_5 h0, og64_5 h0, ok64_5 h0, of64_6 h0, og64_6 h0, ok64_6 h0, of64_7 h0, og64_7 h0, of64_8 h0, og64_8 h0, of64_9 h0, og64_9 h0, of64_10 h0, og64_10 h0, of64_11 h0, og64_11 h0, of64_12 h0, og64_12 h0, of64_13 h0, og64_13 h0, ok64_13 h0, of64_14 h0, og64_14 h0, of64_15 h0, og64_15 h0, ok64_15 h0, of64_16 h0, og64_16 h0, of64_17 h0, og64_17 h0, of64_18 h0, og64_18 h0, of64_19 h0, og64_19 h0, of64_20 h0, og64_20 h0, of64_21 h0, og64_21 h0, ok64_21 h0, of64_22 h0, og64_22 h0, of64_23 h0, og64_23 h0, ok64_23 h0, of64_24 h0, og64_24 h0, ok64_24 h0, of64_25 h0, og64_25 h0, ok64_25 h0, of64_26 h0, og64_26 h0, ok64_26 h0, of64_27 h0, og64_27 h0, ok64_27 h0, of64_28 h0, og64_28 h0, of64_29 h0, og64_29 h0, of64_30 h0, og64_30 h0, of64_31 h0, og64_31 h0, of64_32 h0, og64_32 h0, of64_33 h0, og64_33 h0, of64_34 h0, og64_34 h0, of64_35 h0, og64_35 h0, ok64_35 h0, of64_36 h0, og64_36 h0, ok64_36 h0, c1', h26, e6]
  · have c1' : fI w 64 6 ≤ sv := i32_nlt.mp c1
    rw [if_neg (fun q => c1 q.2), if_neg (fun q => c1 q.2)]
    refine ⟨w, ?_, h0, fun ag le ti d h => h, h26, h27, fg_rf⟩
    simp only [z124_82, z124_83, z124_86, z124_87, z124_90, z124_91, z124_94, z124_97, z124_98, z124_99, z124_102, z124_103, z124_104, z124_107, z124_108, z124_109, z124_112, Option.bind_some, Option.toList_some, Option.toList_none, List.cons_append, List.nil_append, sc_i, sc_r, sc_l, sc_u, sc_s, List.length_nil, List.length_cons, Nat.reduceAdd, Nat.reduceLeDiff, Nat.zero_le, le4_0, le4_1, le4_2, le4_3, rz0, rz1, rzt, eq_self, fo_f, fo_a, fo_j, co_f, co_a, co_j, ao_f, ao_a, ao_j, zo_f, zo_a, zo_j, jo_f, jo_a, jo_j, al_f, al_a, al_j, fg_a, fg_j, ag_f, ag_j, jg_f, jg_a, fk_f, fk_a, fk_j, fi_a, fi_j, tI_0, tI_n0, if_true, if_false, ne_eq, not_true_eq_false, not_false_eq_true, and_self, Bool.false_eq_true, oc64 h0, of64_0 h0, og64_0 h0, ok64_0 h0, of64_1 h0, og64_1 h0, of64_2 h0, og64_2 h0, of64_3 h0, og64_3 h0, of64_4 h0, og64_4 h0, of64_5 h0, og64_5 h0, ok64_5 h0, of64_6 h0, og64_6 h0, ok64_6 h0, of64_7 h0, og64_7 h0, of64_8 h0, og64_8 h0, of64_9 h0, og64_9 h0, of64_10 h0, og64_10 h0, of64_11 h0, og64_11 h0, of64_12 h0, og64_12 h0, of64_13 h0, og64_13 h0, ok64_13 h0, of64_14 h0, og64_14 h0, of64_15 h0, og64_15 h0, ok64_15 h0, of64_16 h0, og64_16 h0, of64_17 h0, og64_17 h0, of64_18 h0, og64_18 h0, of64_19 h0, og64_19 h0, of64_20 h0, og64_20 h0, of64_21 h0, og64_21 h0, ok64_21 h0, of64_22 h0, og64_22 h0, of64_23 h0, og64_23 h0, ok64_23 h0, of64_24 h0, og64_24 h0, ok64_24 h0, of64_25 h0, og64_25 h0, ok64_25 h0, of64_26 h0, og64_26 h0, ok64_26 h0, of64_27 h0, og64_27 h0, ok64_27 h0, of64_28 h0, og64_28 h0, of64_29 h0, og64_29 h0, of64_30 h0, og64_30 h0, of64_31 h0, og64_31 h0, of64_32 h0, og64_32 h0, of64_33 h0, og64_33 h0, of64_34 h0, og64_34 h0, of64_35 h0, og64_35 h0, ok64_35 h0, of64_36 h0, og64_36 h0, ok64_36 h0, c1']
/-- the letters of one act -/
theorem x_g1L {X : Scr} {g ag le ti : Nat → Int32} {c b k p j N : Nat} {v2 : Value} (hk : k < 60) (hp : p + 2 + N < 60) (hj : j < 8) (hl : ∀ t, t < N → ltP (g (p + 2 + t))) : ∀ (n i : Nat), i + n = N → ∀ (w : AW) (d : DS), OK w → hM w ag le ti d → DI d → (∀ t, t < 60 → aget w 75 t = g t) → aget w 77 k = nI j → aget w 80 k = nI (p + 2 + N) → ∃ w', Z X 124 22 [.ref 64, .int (nI k), v2, .int (nI (p + 2 + i))] [] w = Z X 124 82 [.ref 64, .int (nI k), v2, .int (nI (p + 2 + N))] [] w' ∧ OK w' ∧ hM w' ag le ti (sayN le (aL g p) j n i d) ∧ FM w w' := by
  intro n
  induction n with
  | zero =>
    intro i hi w d h0 h di h75 h77 h80
    have hi : i = N := hi
    subst hi
    refine ⟨w, ?_, h0, h, fm_rf⟩
    rw [z124_22]
    simp only [z124_23, z124_24, z124_27, z124_28, z124_29, z124_57, Option.bind_some, Option.toList_some, Option.toList_none, List.cons_append, List.nil_append, sc_i, sc_r, sc_l, sc_u, sc_s, List.length_nil, List.length_cons, Nat.reduceAdd, Nat.reduceLeDiff, Nat.zero_le, le4_0, le4_1, le4_2, le4_3, rz0, rz1, rzt, eq_self, fo_f, fo_a, fo_j, co_f, co_a, co_j, ao_f, ao_a, ao_j, zo_f, zo_a, zo_j, jo_f, jo_a, jo_j, al_f, al_a, al_j, fg_a, fg_j, ag_f, ag_j, jg_f, jg_a, fk_f, fk_a, fk_j, fi_a, fi_j, tI_0, tI_n0, if_true, if_false, ne_eq, not_true_eq_false, not_false_eq_true, and_self, Bool.false_eq_true, oc64 h0, of64_0 h0, og64_0 h0, ok64_0 h0, of64_1 h0, og64_1 h0, of64_2 h0, og64_2 h0, of64_3 h0, og64_3 h0, of64_4 h0, og64_4 h0, of64_5 h0, og64_5 h0, ok64_5 h0, of64_6 h0, og64_6 h0, ok64_6 h0, of64_7 h0, og64_7 h0, of64_8 h0, og64_8 h0, of64_9 h0, og64_9 h0, of64_10 h0, og64_10 h0, of64_11 h0, og64_11 h0, of64_12 h0, og64_12 h0, of64_13 h0, og64_13 h0, ok64_13 h0, of64_14 h0, og64_14 h0, of64_15 h0, og64_15 h0, ok64_15 h0, of64_16 h0, og64_16 h0, of64_17 h0, og64_17 h0, of64_18 h0, og64_18 h0, of64_19 h0, og64_19 h0, of64_20 h0, og64_20 h0, of64_21 h0, og64_21 h0, ok64_21 h0, of64_22 h0, og64_22 h0, of64_23 h0, og64_23 h0, ok64_23 h0, of64_24 h0, og64_24 h0, ok64_24 h0, of64_25 h0, og64_25 h0, ok64_25 h0, of64_26 h0, og64_26 h0, ok64_26 h0, of64_27 h0, og64_27 h0, ok64_27 h0, of64_28 h0, og64_28 h0, of64_29 h0, og64_29 h0, of64_30 h0, og64_30 h0, of64_31 h0, og64_31 h0, of64_32 h0, og64_32 h0, of64_33 h0, og64_33 h0, of64_34 h0, og64_34 h0, of64_35 h0, og64_35 h0, ok64_35 h0, of64_36 h0, og64_36 h0, ok64_36 h0, oa80 h0, ol80 h0, b60 hk, c60 hk, h80, geN (show p + 2 + i < 1000 by omega) (show p + 2 + i < 1000 by omega), Nat.le_refl]
  | succ n ih =>
    intro i hi w d h0 h di h75 h77 h80
    have hiN : i < N := by omega
    have e : ¬ p + 2 + N ≤ p + 2 + i := by omega
    have hg := h75 (p + 2 + i) (by omega)
    obtain ⟨m1, m2⟩ := lt_n (hl i hiN)
    obtain ⟨w1, a1, a2, a3, a4⟩ := m_say (X := X) (t := aL g p i) h0 h di hj
    obtain ⟨w', b1, b2, b3, b4⟩ := ih (i + 1) (by omega) w1 _ a2 a3 (DI_say di hj) (fun t ht => by rw [a4.1 75 (by decide)]; exact h75 t ht) (by rw [a4.1 77 (by decide)]; exact h77) (by rw [a4.1 80 (by decide)]; exact h80)
    have m1 : g (p + 2 + i) - 97 = nI (aL g p i) := m1
    refine ⟨w', ?_, b2, b3, fm_tr a4 b4⟩
    rw [← b1, z124_22]
    have hnx : nI (p + 2 + i) + 1 = nI (p + 2 + (i + 1)) := nI_1 _
    simp only [z124_23, z124_24, z124_27, z124_28, z124_29, z124_32, z124_33, z124_34, z124_37, z124_38, z124_39, z124_40, z124_43, z124_44, z124_45, z124_47, z124_48, z124_51, z124_54, Option.bind_some, Option.toList_some, Option.toList_none, List.cons_append, List.nil_append, sc_i, sc_r, sc_l, sc_u, sc_s, List.length_nil, List.length_cons, Nat.reduceAdd, Nat.reduceLeDiff, Nat.zero_le, le4_0, le4_1, le4_2, le4_3, rz0, rz1, rzt, eq_self, fo_f, fo_a, fo_j, co_f, co_a, co_j, ao_f, ao_a, ao_j, zo_f, zo_a, zo_j, jo_f, jo_a, jo_j, al_f, al_a, al_j, fg_a, fg_j, ag_f, ag_j, jg_f, jg_a, fk_f, fk_a, fk_j, fi_a, fi_j, tI_0, tI_n0, if_true, if_false, ne_eq, not_true_eq_false, not_false_eq_true, and_self, Bool.false_eq_true, oc64 h0, of64_0 h0, og64_0 h0, ok64_0 h0, of64_1 h0, og64_1 h0, of64_2 h0, og64_2 h0, of64_3 h0, og64_3 h0, of64_4 h0, og64_4 h0, of64_5 h0, og64_5 h0, ok64_5 h0, of64_6 h0, og64_6 h0, ok64_6 h0, of64_7 h0, og64_7 h0, of64_8 h0, og64_8 h0, of64_9 h0, og64_9 h0, of64_10 h0, og64_10 h0, of64_11 h0, og64_11 h0, of64_12 h0, og64_12 h0, of64_13 h0, og64_13 h0, ok64_13 h0, of64_14 h0, og64_14 h0, of64_15 h0, og64_15 h0, ok64_15 h0, of64_16 h0, og64_16 h0, of64_17 h0, og64_17 h0, of64_18 h0, og64_18 h0, of64_19 h0, og64_19 h0, of64_20 h0, og64_20 h0, of64_21 h0, og64_21 h0, ok64_21 h0, of64_22 h0, og64_22 h0, of64_23 h0, og64_23 h0, ok64_23 h0, of64_24 h0, og64_24 h0, ok64_24 h0, of64_25 h0, og64_25 h0, ok64_25 h0, of64_26 h0, og64_26 h0, ok64_26 h0, of64_27 h0, og64_27 h0, ok64_27 h0, of64_28 h0, og64_28 h0, of64_29 h0, og64_29 h0, of64_30 h0, og64_30 h0, of64_31 h0, og64_31 h0, of64_32 h0, og64_32 h0, of64_33 h0, og64_33 h0, of64_34 h0, og64_34 h0, of64_35 h0, og64_35 h0, ok64_35 h0, of64_36 h0, og64_36 h0, ok64_36 h0, oa75 h0, ol75 h0, oa77 h0, ol77 h0, oa80 h0, ol80 h0, b60 hk, c60 hk, h80, h77, geN (show p + 2 + i < 1000 by omega) (show p + 2 + N < 1000 by omega), e, b60 (show p + 2 + i < 60 by omega), c60 (show p + 2 + i < 60 by omega), hg, m1, a1, hnx]
/-- one act that can be -/
def G1 (X : Scr) (g : Nat → Int32) (c : Nat) (ag le ti : Nat → Int32) (d : DS) (k : Nat) (fa fk : Int32) (w : AW) : Prop := ∃ w', Z X 124 0 [.ref 64, .int (nI k), uns, uns] [] w = some (none, w') ∧ OK w' ∧ hM w' ag le ti (goP g c ag le ti d (plc g c k)) ∧ fI w' 64 26 = (if fa = -6 ∧ d.2.2.2 < (goP g c ag le ti d (plc g c k)).2.2.2 then nI k else fa) ∧ fI w' 64 27 = (if fa = -6 ∧ d.2.2.2 < (goP g c ag le ti d (plc g c k)).2.2.2 then g (plc g c k) - 65 else fk) ∧ FG w w'
theorem sv_lt {x : Int32} : ¬ x < x := i32_nlt.mpr (Int32.le_iff_toInt_le.mpr (Int.le_refl _))
theorem g1_hap {X : Scr} {g ag le ti : Nat → Int32} {c b k : Nat} {w : AW} {d : DS} {fa fk x y z : Int32} (hk : k < 60) (h0 : OK w) (h : hM w ag le ti d) (h26 : fI w 64 26 = fa) (h27 : fI w 64 27 = fk) (hfa : fa = -6 ∨ ∃ m, m < 60 ∧ fa = nI m) (t1 : aget w 76 k = x) (t2 : aget w 77 k = y) (t3 : aget w 78 k = z) (hx : ¬ x = 1) (hsv : (goP g c ag le ti d (plc g c k)).2.2.2 = d.2.2.2) (hh : ∃ w', Z X 126 0 [.ref 64, .int x, .int y, .int z] [] w = some (none, w') ∧ OK w' ∧ hM w' ag le ti (goP g c ag le ti d (plc g c k)) ∧ FM w w') : G1 X g c ag le ti d k fa fk w := by
  obtain ⟨w1, a1, a2, a3, a4⟩ := hh
  have f26 : fI w1 64 26 = fa := (a4.2 64 26 (by decide)).trans h26
  have f27 : fI w1 64 27 = fk := (a4.2 64 27 (by decide)).trans h27
  obtain ⟨w', b1, b2, b3, b4, b5, b6⟩ := x_g1e (X := X) (sv := d.2.2.2) (who := y) (v3 := uns) a2 hk f26 f27 hfa (by rw [a4.1 77 (by decide)]; exact t2)
  have e6 : fI w1 64 6 = d.2.2.2 := a3.2.2.2.trans hsv
  rw [e6, if_neg (fun q => sv_lt q.2)] at b4 b5
  refine ⟨w', ?_, b2, b3 _ _ _ _ a3, ?_, ?_, fg_tr (fg_m a4) b6⟩
  · simp only [z124_0, z124_1, z124_4, z124_5, z124_6, z124_9, z124_10, z124_11, z124_12, z124_60, z124_61, z124_62, z124_65, z124_66, z124_67, z124_68, z124_71, z124_72, z124_73, z124_74, z124_77, z124_78, z124_79, Option.bind_some, Option.toList_some, Option.toList_none, List.cons_append, List.nil_append, sc_i, sc_r, sc_l, sc_u, sc_s, List.length_nil, List.length_cons, Nat.reduceAdd, Nat.reduceLeDiff, Nat.zero_le, le4_0, le4_1, le4_2, le4_3, rz0, rz1, rzt, eq_self, fo_f, fo_a, fo_j, co_f, co_a, co_j, ao_f, ao_a, ao_j, zo_f, zo_a, zo_j, jo_f, jo_a, jo_j, al_f, al_a, al_j, fg_a, fg_j, ag_f, ag_j, jg_f, jg_a, fk_f, fk_a, fk_j, fi_a, fi_j, tI_0, tI_n0, if_true, if_false, ne_eq, not_true_eq_false, not_false_eq_true, and_self, Bool.false_eq_true, sc_u, oc64 h0, of64_0 h0, og64_0 h0, ok64_0 h0, of64_1 h0, og64_1 h0, of64_2 h0, og64_2 h0, of64_3 h0, og64_3 h0, of64_4 h0, og64_4 h0, of64_5 h0, og64_5 h0, ok64_5 h0, of64_6 h0, og64_6 h0, ok64_6 h0, of64_7 h0, og64_7 h0, of64_8 h0, og64_8 h0, of64_9 h0, og64_9 h0, of64_10 h0, og64_10 h0, of64_11 h0, og64_11 h0, of64_12 h0, og64_12 h0, of64_13 h0, og64_13 h0, ok64_13 h0, of64_14 h0, og64_14 h0, of64_15 h0, og64_15 h0, ok64_15 h0, of64_16 h0, og64_16 h0, of64_17 h0, og64_17 h0, of64_18 h0, og64_18 h0, of64_19 h0, og64_19 h0, of64_20 h0, og64_20 h0, of64_21 h0, og64_21 h0, ok64_21 h0, of64_22 h0, og64_22 h0, of64_23 h0, og64_23 h0, ok64_23 h0, of64_24 h0, og64_24 h0, ok64_24 h0, of64_25 h0, og64_25 h0, ok64_25 h0, of64_26 h0, og64_26 h0, ok64_26 h0, of64_27 h0, og64_27 h0, ok64_27 h0, of64_28 h0, og64_28 h0, of64_29 h0, og64_29 h0, of64_30 h0, og64_30 h0, of64_31 h0, og64_31 h0, of64_32 h0, og64_32 h0, of64_33 h0, og64_33 h0, of64_34 h0, og64_34 h0, of64_35 h0, og64_35 h0, ok64_35 h0, of64_36 h0, og64_36 h0, ok64_36 h0, oa76 h0, ol76 h0, oa77 h0, ol77 h0, oa78 h0, ol78 h0, b60 hk, c60 hk, h.2.2.2, t1, t2, t3, hx, a1, b1]
  · rw [hsv, if_neg (fun q => sv_lt q.2)]; exact b4
  · rw [hsv, if_neg (fun q => sv_lt q.2)]; exact b5
/-- why an act can't be, and its doing -/
theorem x_mact {X : Scr} {g ag le ti : Nat → Int32} {c b k : Nat} {w : AW} {d : DS} {fa fk : Int32} (hc : c ≤ 60) (hk : k < b) (hk60 : k < 60) (wf : wfA g c (plc g c k)) (h0 : OK w) (h : hM w ag le ti d) (di : DI d) (hs : STc ag ti) (tb : TB g c b w) (h26 : fI w 64 26 = fa) (h27 : fI w 64 27 = fk) (hfa : fa = -6 ∨ ∃ m, m < 60 ∧ fa = nI m) : Z X 122 0 [.ref 64, .int (aget w 76 k), .int (aget w 77 k), .int (aget w 78 k)] [] w = some (some (.int (whyP g ag ti d (plc g c k))), w) ∧ ∀ w1 : AW, OK w1 → hM w1 ag le ti d → TB g c b w1 → fI w1 64 26 = fa → fI w1 64 27 = fk → G1 X g c ag le ti d k fa fk w1 := by
  obtain ⟨hp, wf⟩ := wf
  unfold whyP
  have tab := tb.1 k hk
  rcases wf with e33 | ⟨nm, hp1, e⟩
  · have k4 : aK g (plc g c k) = 4 := by unfold aK; rw [if_pos e33]
    have hgo : goP g c ag le ti d (plc g c k) = doA ag ti d 4 (aJ g (plc g c k)) (aT g (plc g c k)) := by unfold goP; rw [k4, if_neg (show ¬ 4 = 1 by decide)]
    obtain ⟨t1, t2, t3⟩ := tab.1 e33
    rw [k4, t1, t2, t3]
    refine ⟨m_why4 h0 h di hs, fun w1 o1 m1 tb1 f1 f2 => ?_⟩
    obtain ⟨u1, u2, u3⟩ := (tb1.1 k hk).1 e33
    refine g1_hap (b := b) hk60 o1 m1 f1 f2 hfa u1 u2 u3 (by decide) (by rw [hgo]; rfl) ?_
    rw [hgo]
    exact m_h4 o1 m1 hs
  · have n33 := nm_33 nm
    obtain ⟨n1, n2⟩ := nm_n nm
    have n2 : aJ g (plc g c k) < 8 := n2
    have n1 : g (plc g c k) - 65 = nI (aJ g (plc g c k)) := n1
    obtain ⟨t2, q61, q43, q62, q34⟩ := tab.2 nm
    rw [n1] at t2
    rcases e with e | e | ⟨e, hp2, nt⟩ | ⟨e, n, y1, y2, y3, y4⟩
    · have k2 : aK g (plc g c k) = 2 := by unfold aK; rw [if_neg n33, e, if_neg (by decide), if_pos rfl]
      have hgo : goP g c ag le ti d (plc g c k) = doA ag ti d 2 (aJ g (plc g c k)) (aT g (plc g c k)) := by unfold goP; rw [k2, if_neg (show ¬ 2 = 1 by decide)]
      obtain ⟨t1, t3⟩ := q61 e
      rw [k2, t1, t2, t3]
      refine ⟨m_why2 h0 h di n2, fun w1 o1 m1 tb1 f1 f2 => ?_⟩
      obtain ⟨u2, u61, -, -, -⟩ := (tb1.1 k hk).2 nm
      obtain ⟨u1, u3⟩ := u61 e
      rw [n1] at u2
      refine g1_hap (b := b) hk60 o1 m1 f1 f2 hfa u1 u2 u3 (by decide) (by rw [hgo]; rfl) ?_
      rw [hgo]
      exact m_h2 o1 m1 di n2
    · have k3 : aK g (plc g c k) = 3 := by unfold aK; rw [if_neg n33, e, if_neg (by decide), if_neg (by decide), if_pos rfl]
      have hgo : goP g c ag le ti d (plc g c k) = doA ag ti d 3 (aJ g (plc g c k)) (aT g (plc g c k)) := by unfold goP; rw [k3, if_neg (show ¬ 3 = 1 by decide)]
      obtain ⟨t1, t3⟩ := q43 e
      rw [k3, t1, t2, t3]
      refine ⟨m_why1 (t := 0) h0 h (Or.inr rfl), fun w1 o1 m1 tb1 f1 f2 => ?_⟩
      obtain ⟨u2, -, u43, -, -⟩ := (tb1.1 k hk).2 nm
      obtain ⟨u1, u3⟩ := u43 e
      rw [n1] at u2
      refine g1_hap (b := b) hk60 o1 m1 f1 f2 hfa u1 u2 u3 (by decide) (by rw [hgo]; rfl) ?_
      rw [hgo]
      exact m_h3 o1 m1 di hs n2
    · have k0 : aK g (plc g c k) = 0 := by unfold aK; rw [if_neg n33, if_pos e]
      have hgo : goP g c ag le ti d (plc g c k) = doA ag ti d 0 (aJ g (plc g c k)) (aT g (plc g c k)) := by unfold goP; rw [k0, if_neg (show ¬ 0 = 1 by decide)]
      have x1 : g (plc g c k + 2) - 65 = nI (aT g (plc g c k)) := (nm_n nt).1
      obtain ⟨t1, t3⟩ := q62 e
      rw [x1] at t3
      rw [k0, t1, t2, t3]
      refine ⟨m_why0 h0 h n2, fun w1 o1 m1 tb1 f1 f2 => ?_⟩
      obtain ⟨u2, -, -, u62, -⟩ := (tb1.1 k hk).2 nm
      obtain ⟨u1, u3⟩ := u62 e
      rw [n1] at u2
      rw [x1] at u3
      refine g1_hap (b := b) hk60 o1 m1 f1 f2 hfa u1 u2 u3 (by decide) (by rw [hgo]; rfl) ?_
      rw [hgo]
      exact m_h0 o1 m1
    · have k1 : aK g (plc g c k) = 1 := by unfold aK; rw [if_neg n33, e, if_neg (by decide), if_neg (by decide), if_neg (by decide)]
      have hl := (len_4 hc y2 nm e y3 y4).2
      have hgo : goP g c ag le ti d (plc g c k) = sayN le (aL g (plc g c k)) (aJ g (plc g c k)) n 0 d := by unfold goP; rw [k1, if_pos rfl, hl]
      obtain ⟨t1, t3, t4, t5⟩ := q34 e
      rw [k1, t1, t2]
      refine ⟨m_why1 (t := aT g (plc g c k)) h0 h (Or.inl rfl), fun w1 o1 m1 tb1 f1 f2 => ?_⟩
      obtain ⟨u2, -, -, -, u34⟩ := (tb1.1 k hk).2 nm
      obtain ⟨u1, u3, u4, u5⟩ := u34 e
      rw [n1] at u2
      rw [hl] at u5
      obtain ⟨w2, a1, a2, a3, a4⟩ := x_g1L (X := X) (b := b) (c := c) (v2 := .int (fI w1 64 6)) hk60 (show plc g c k + 2 + n < 60 by omega) n2 y3 n 0 (by omega) w1 d o1 m1 di tb1.2.1 u2 u5
      rw [Nat.add_zero] at a1
      obtain ⟨w3, b1, b2, b3, b4, b5, b6⟩ := x_g1e (X := X) (sv := fI w1 64 6) (who := nI (aJ g (plc g c k))) (v3 := .int (nI (plc g c k + 2 + n))) a2 hk60 ((a4.2 64 26 (by decide)).trans f1) ((a4.2 64 27 (by decide)).trans f2) hfa (by rw [a4.1 77 (by decide)]; exact u2)
      rw [m1.2.2.2, a3.2.2.2] at b4 b5
      unfold G1
      rw [hgo, n1]
      refine ⟨w3, ?_, b2, b3 _ _ _ _ a3, b4, b5, fg_tr (fg_m a4) b6⟩
      simp only [z124_0, z124_1, z124_4, z124_5, z124_6, z124_9, z124_10, z124_11, z124_12, z124_15, z124_16, z124_19, z124_20, z124_21, Option.bind_some, Option.toList_some, Option.toList_none, List.cons_append, List.nil_append, sc_i, sc_r, sc_l, sc_u, sc_s, List.length_nil, List.length_cons, Nat.reduceAdd, Nat.reduceLeDiff, Nat.zero_le, le4_0, le4_1, le4_2, le4_3, rz0, rz1, rzt, eq_self, fo_f, fo_a, fo_j, co_f, co_a, co_j, ao_f, ao_a, ao_j, zo_f, zo_a, zo_j, jo_f, jo_a, jo_j, al_f, al_a, al_j, fg_a, fg_j, ag_f, ag_j, jg_f, jg_a, fk_f, fk_a, fk_j, fi_a, fi_j, tI_0, tI_n0, if_true, if_false, ne_eq, not_true_eq_false, not_false_eq_true, and_self, Bool.false_eq_true, sc_u, oc64 o1, of64_0 o1, og64_0 o1, ok64_0 o1, of64_1 o1, og64_1 o1, of64_2 o1, og64_2 o1, of64_3 o1, og64_3 o1, of64_4 o1, og64_4 o1, of64_5 o1, og64_5 o1, ok64_5 o1, of64_6 o1, og64_6 o1, ok64_6 o1, of64_7 o1, og64_7 o1, of64_8 o1, og64_8 o1, of64_9 o1, og64_9 o1, of64_10 o1, og64_10 o1, of64_11 o1, og64_11 o1, of64_12 o1, og64_12 o1, of64_13 o1, og64_13 o1, ok64_13 o1, of64_14 o1, og64_14 o1, of64_15 o1, og64_15 o1, ok64_15 o1, of64_16 o1, og64_16 o1, of64_17 o1, og64_17 o1, of64_18 o1, og64_18 o1, of64_19 o1, og64_19 o1, of64_20 o1, og64_20 o1, of64_21 o1, og64_21 o1, ok64_21 o1, of64_22 o1, og64_22 o1, of64_23 o1, og64_23 o1, ok64_23 o1, of64_24 o1, og64_24 o1, ok64_24 o1, of64_25 o1, og64_25 o1, ok64_25 o1, of64_26 o1, og64_26 o1, ok64_26 o1, of64_27 o1, og64_27 o1, ok64_27 o1, of64_28 o1, og64_28 o1, of64_29 o1, og64_29 o1, of64_30 o1, og64_30 o1, of64_31 o1, og64_31 o1, of64_32 o1, og64_32 o1, of64_33 o1, og64_33 o1, of64_34 o1, og64_34 o1, of64_35 o1, og64_35 o1, ok64_35 o1, of64_36 o1, og64_36 o1, ok64_36 o1, oa76 o1, ol76 o1, oa79 o1, ol79 o1, b60 hk60, c60 hk60, u1, u4, a1, b1]
