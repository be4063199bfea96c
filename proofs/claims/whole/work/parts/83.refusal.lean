/-! the reference: goDays, keepNow, back, refusal -/
theorem x_gdL {X : Scr} {g ag le ti : Nat → Int32} {c b : Nat} (hc : c ≤ 60) (hb : plc g c b = c) (hs : STc ag ti) (wf : ∀ k, k < b → wfA g c (plc g c k)) : ∀ (n k : Nat), k + n = b → ∀ (w : AW) (d : DS) (fa fk : Int32) (v2 : Value), isSec v2 = false → OK w → hM w ag le ti d → DI d → TB g c b w → fI w 64 23 = -6 → fI w 64 24 = -6 → fI w 64 26 = fa → fI w 64 27 = fk → (fa = -6 ∨ ∃ m, m < 60 ∧ fa = nI m) → ∃ w' k' v', Z X 121 26 [.ref 64, .int (nI k), v2] [] w = Z X 121 107 [.ref 64, .int k', v'] [] w' ∧ OK w' ∧ hM w' ag le ti (dayN g c ag le ti n k d fa fk).2.2.1 ∧ DI (dayN g c ag le ti n k d fa fk).2.2.1 ∧ fI w' 64 23 = (dayN g c ag le ti n k d fa fk).1 ∧ fI w' 64 24 = (dayN g c ag le ti n k d fa fk).2.1 ∧ fI w' 64 26 = (dayN g c ag le ti n k d fa fk).2.2.2.1 ∧ fI w' 64 27 = (dayN g c ag le ti n k d fa fk).2.2.2.2 ∧ ((dayN g c ag le ti n k d fa fk).1 = -6 ∨ ∃ m, m < 60 ∧ (dayN g c ag le ti n k d fa fk).1 = nI m) ∧ FD w w' := by
  have hb60 : b ≤ 60 := by have := plc_ge (g := g) (c := c) b; omega
  intro n
  induction n with
  | zero =>
    intro k hk w d fa fk v2 hv h0 h di tb f23 f24 f26 f27 hfa
    have hk : k = b := hk
    subst hk
    refine ⟨w, nI k, v2, ?_, h0, h, di, f23, f24, f26, f27, Or.inl rfl, fd_rf⟩
    rw [z121_26]
    simp only [z121_27, z121_28, z121_31, Option.bind_some, Option.toList_some, Option.toList_none, List.cons_append, List.nil_append, sc_i, sc_r, sc_l, sc_u, sc_s, List.length_nil, List.length_cons, Nat.reduceAdd, Nat.reduceLeDiff, Nat.zero_le, le4_0, le4_1, le4_2, le4_3, rz0, rz1, rzt, eq_self, fo_f, fo_a, fo_j, co_f, co_a, co_j, ao_f, ao_a, ao_j, zo_f, zo_a, zo_j, jo_f, jo_a, jo_j, al_f, al_a, al_j, fg_a, fg_j, ag_f, ag_j, jg_f, jg_a, fk_f, fk_a, fk_j, fi_a, fi_j, tI_0, tI_n0, if_true, if_false, ne_eq, not_true_eq_false, not_false_eq_true, and_self, Bool.false_eq_true, oc64 h0, of64_0 h0, og64_0 h0, ok64_0 h0, of64_1 h0, og64_1 h0, of64_2 h0, og64_2 h0, of64_3 h0, og64_3 h0, of64_4 h0, og64_4 h0, of64_5 h0, og64_5 h0, ok64_5 h0, of64_6 h0, og64_6 h0, ok64_6 h0, of64_7 h0, og64_7 h0, of64_8 h0, og64_8 h0, of64_9 h0, og64_9 h0, of64_10 h0, og64_10 h0, of64_11 h0, og64_11 h0, of64_12 h0, og64_12 h0, of64_13 h0, og64_13 h0, ok64_13 h0, of64_14 h0, og64_14 h0, of64_15 h0, og64_15 h0, ok64_15 h0, of64_16 h0, og64_16 h0, of64_17 h0, og64_17 h0, of64_18 h0, og64_18 h0, of64_19 h0, og64_19 h0, of64_20 h0, og64_20 h0, of64_21 h0, og64_21 h0, ok64_21 h0, of64_22 h0, og64_22 h0, of64_23 h0, og64_23 h0, ok64_23 h0, of64_24 h0, og64_24 h0, ok64_24 h0, of64_25 h0, og64_25 h0, ok64_25 h0, of64_26 h0, og64_26 h0, ok64_26 h0, of64_27 h0, og64_27 h0, ok64_27 h0, of64_28 h0, og64_28 h0, of64_29 h0, og64_29 h0, of64_30 h0, og64_30 h0, of64_31 h0, og64_31 h0, of64_32 h0, og64_32 h0, of64_33 h0, og64_33 h0, of64_34 h0, og64_34 h0, of64_35 h0, og64_35 h0, ok64_35 h0, of64_36 h0, og64_36 h0, ok64_36 h0, tb.2.2, geN (show k < 1000 by omega) (show k < 1000 by omega), Nat.le_refl]
  | succ n ih =>
    intro k hk w d fa fk v2 hv h0 h di tb f23 f24 f26 f27 hfa
    have hkb : k < b := by omega
    have hk60 : k < 60 := by omega
    have e1 : ¬ b ≤ k := by omega
    have e6 : ¬ (-6 : Int32) ≥ 0 := by decide
    obtain ⟨hw, hg⟩ := x_mact (X := X) hc hkb hk60 (wf k hkb) h0 h di hs tb f26 f27 hfa
    rw [dayN]
    by_cases c0 : whyP g ag ti d (plc g c k) = 0
    · rw [c0] at hw
      rw [if_pos c0]
      have ok1 : OK (fset w 64 23 (.int (-6))) := ok_f h0 (by decide)
      obtain ⟨W, hW⟩ : ∃ W, W = fset (fset w 64 23 (.int (-6))) 64 24 (.int (-6)) := ⟨_, rfl⟩
      have okW : OK W := by rw [hW]; exact ok_f ok1 (by decide)
      have fdW : FD w W := by rw [hW]; exact fd_tr (fd_f (by decide)) (fd_f (by decide))
      have hMW : hM W ag le ti d := by rw [hW]; exact hM_of (hM_of h (by decide)) (by decide)
      have tbW := tb_fd tb fdW
      have g26 : fI W 64 26 = fa := by rw [hW, fi_n (by decide), fi_n (by decide)]; exact f26
      have g27 : fI W 64 27 = fk := by rw [hW, fi_n (by decide), fi_n (by decide)]; exact f27
      have g23 : fI W 64 23 = -6 := by rw [hW, fi_n (by decide), fi_s (ok64_23 h0)]
      have g24 : fI W 64 24 = -6 := by rw [hW, fi_s (ok64_24 ok1)]
      obtain ⟨w2, a1, a2, a3, a4, a5, a6⟩ := hg W okW hMW tbW g26 g27
      have hn : (if fa = -6 ∧ d.2.2.2 < (goP g c ag le ti d (plc g c k)).2.2.2 then nI k else fa) = -6 ∨ ∃ m, m < 60 ∧ (if fa = -6 ∧ d.2.2.2 < (goP g c ag le ti d (plc g c k)).2.2.2 then nI k else fa) = nI m := by
        by_cases z : fa = -6 ∧ d.2.2.2 < (goP g c ag le ti d (plc g c k)).2.2.2
        · rw [if_pos z]; exact Or.inr ⟨k, hk60, rfl⟩
        · rw [if_neg z]; exact hfa
      have f23' : fI w2 64 23 = -6 := (a6.2 64 23 (by decide)).trans g23
      have f24' : fI w2 64 24 = -6 := (a6.2 64 24 (by decide)).trans g24
      have a6' := fg_fd a6
      obtain ⟨w', k', v', b1, b2, b3, b4, b5, b6, b7, b8, b9, b10⟩ := ih (k + 1) (by omega) w2 _ _ _ (.int 0) sc_i a2 a3 (DI_go hs (wf k hkb) di c0) (tb_fd tbW a6') f23' f24' a4 a5 hn
      refine ⟨w', k', v', ?_, b2, b3, b4, b5, b6, b7, b8, b9, fd_tr (fd_tr fdW a6') b10⟩
      have z00 : (0 : Int32) ≤ 0 := by decide
      rw [← b1, z121_26]
      simp only [z121_0, z121_1, z121_3, z121_6, z121_7, z121_9, z121_12, z121_13, z121_15, z121_18, z121_19, z121_21, z121_24, z121_25, z121_27, z121_28, z121_31, z121_34, z121_35, z121_38, z121_41, z121_42, z121_43, z121_46, z121_47, z121_48, z121_49, z121_52, z121_53, z121_54, z121_55, z121_58, z121_59, z121_60, z121_63, z121_64, z121_65, z121_66, z121_69, z121_70, z121_73, z121_75, z121_78, z121_79, z121_80, z121_83, z121_84, z121_87, z121_89, z121_92, z121_93, z121_96, z121_97, z121_98, z121_101, z121_104, z121_108, z121_109, z121_112, z121_113, z121_116, z121_118, z121_119, z121_120, z121_123, Option.bind_some, Option.toList_some, Option.toList_none, List.cons_append, List.nil_append, sc_i, sc_r, sc_l, sc_u, sc_s, List.length_nil, List.length_cons, Nat.reduceAdd, Nat.reduceLeDiff, Nat.zero_le, le4_0, le4_1, le4_2, le4_3, rz0, rz1, rzt, eq_self, fo_f, fo_a, fo_j, co_f, co_a, co_j, ao_f, ao_a, ao_j, zo_f, zo_a, zo_j, jo_f, jo_a, jo_j, al_f, al_a, al_j, fg_a, fg_j, ag_f, ag_j, jg_f, jg_a, fk_f, fk_a, fk_j, fi_a, fi_j, tI_0, tI_n0, if_true, if_false, ne_eq, not_true_eq_false, not_false_eq_true, and_self, Bool.false_eq_true, hv, oc64 h0, of64_0 h0, og64_0 h0, ok64_0 h0, of64_1 h0, og64_1 h0, of64_2 h0, og64_2 h0, of64_3 h0, og64_3 h0, of64_4 h0, og64_4 h0, of64_5 h0, og64_5 h0, ok64_5 h0, of64_6 h0, og64_6 h0, ok64_6 h0, of64_7 h0, og64_7 h0, of64_8 h0, og64_8 h0, of64_9 h0, og64_9 h0, of64_10 h0, og64_10 h0, of64_11 h0, og64_11 h0, of64_12 h0, og64_12 h0, of64_13 h0, og64_13 h0, ok64_13 h0, of64_14 h0, og64_14 h0, of64_15 h0, og64_15 h0, ok64_15 h0, of64_16 h0, og64_16 h0, of64_17 h0, og64_17 h0, of64_18 h0, og64_18 h0, of64_19 h0, og64_19 h0, of64_20 h0, og64_20 h0, of64_21 h0, og64_21 h0, ok64_21 h0, of64_22 h0, og64_22 h0, of64_23 h0, og64_23 h0, ok64_23 h0, of64_24 h0, og64_24 h0, ok64_24 h0, of64_25 h0, og64_25 h0, ok64_25 h0, of64_26 h0, og64_26 h0, ok64_26 h0, of64_27 h0, og64_27 h0, ok64_27 h0, of64_28 h0, og64_28 h0, of64_29 h0, og64_29 h0, of64_30 h0, og64_30 h0, of64_31 h0, og64_31 h0, of64_32 h0, og64_32 h0, of64_33 h0, og64_33 h0, of64_34 h0, og64_34 h0, of64_35 h0, og64_35 h0, ok64_35 h0, of64_36 h0, og64_36 h0, ok64_36 h0, oa76 h0, ol76 h0, oa77 h0, ol77 h0, oa78 h0, ol78 h0, tb.2.2, geN (show k < 1000 by omega) (show b < 1000 by omega), e1, f23, e6, b60 hk60, c60 hk60, hw, z00, ← hW, oc64 okW, of64_0 okW, og64_0 okW, ok64_0 okW, of64_1 okW, og64_1 okW, of64_2 okW, og64_2 okW, of64_3 okW, og64_3 okW, of64_4 okW, og64_4 okW, of64_5 okW, og64_5 okW, ok64_5 okW, of64_6 okW, og64_6 okW, ok64_6 okW, of64_7 okW, og64_7 okW, of64_8 okW, og64_8 okW, of64_9 okW, og64_9 okW, of64_10 okW, og64_10 okW, of64_11 okW, og64_11 okW, of64_12 okW, og64_12 okW, of64_13 okW, og64_13 okW, ok64_13 okW, of64_14 okW, og64_14 okW, of64_15 okW, og64_15 okW, ok64_15 okW, of64_16 okW, og64_16 okW, of64_17 okW, og64_17 okW, of64_18 okW, og64_18 okW, of64_19 okW, og64_19 okW, of64_20 okW, og64_20 okW, of64_21 okW, og64_21 okW, ok64_21 okW, of64_22 okW, og64_22 okW, of64_23 okW, og64_23 okW, ok64_23 okW, of64_24 okW, og64_24 okW, ok64_24 okW, of64_25 okW, og64_25 okW, ok64_25 okW, of64_26 okW, og64_26 okW, ok64_26 okW, of64_27 okW, og64_27 okW, ok64_27 okW, of64_28 okW, og64_28 okW, of64_29 okW, og64_29 okW, of64_30 okW, og64_30 okW, of64_31 okW, og64_31 okW, of64_32 okW, og64_32 okW, of64_33 okW, og64_33 okW, of64_34 okW, og64_34 okW, of64_35 okW, og64_35 okW, ok64_35 okW, of64_36 okW, og64_36 okW, ok64_36 okW, a1, nI_1]
    · rw [if_neg c0]
      rcases why_vals (ag := ag) (ti := ti) (d := d) (k := aK g (plc g c k)) (j := aJ g (plc g c k)) (t := aT g (plc g c k)) with z | ⟨m, m1, m2, m3⟩
      · exact absurd z c0
      · have m3 : whyP g ag ti d (plc g c k) = nI m := m3
        rw [m3] at hw c0 ⊢
        have ok1 : OK (fset w 64 23 (.int (nI k))) := ok_f h0 (by decide)
        obtain ⟨W, hW⟩ : ∃ W, W = fset (fset w 64 23 (.int (nI k))) 64 24 (.int (nI m)) := ⟨_, rfl⟩
        have okW : OK W := by rw [hW]; exact ok_f ok1 (by decide)
        have g23 : fI W 64 23 = nI k := by rw [hW, fi_n (by decide), fi_s (ok64_23 h0)]
        have g21 : fI W 64 21 = nI b := by rw [hW, fi_n (by decide), fi_n (by decide)]; exact tb.2.2
        have mz : (nI m ≤ 0) = (m ≤ 0) := leN (b := 0) (by omega) (by decide)
        have m0 : ¬ m ≤ 0 := by omega
        have ek : nI k ≥ 0 := nI_pos' (by omega)
        refine ⟨W, nI (k + 1), .int (nI m), ?_, okW, by rw [hW]; exact hM_of (hM_of h (by decide)) (by decide), di, g23, by rw [hW, fi_s (ok64_24 ok1)], by rw [hW, fi_n (by decide), fi_n (by decide)]; exact f26, by rw [hW, fi_n (by decide), fi_n (by decide)]; exact f27, Or.inr ⟨k, hk60, rfl⟩, by rw [hW]; exact fd_tr (fd_f (by decide)) (fd_f (by decide))⟩
        have hx : Z X 121 26 [.ref 64, .int (nI (k + 1)), .int (nI m)] [] W = Z X 121 107 [.ref 64, .int (nI (k + 1)), .int (nI m)] [] W := by
          rw [z121_26]
          by_cases z : b ≤ k + 1
          · simp only [z121_27, z121_28, z121_31, Option.bind_some, Option.toList_some, Option.toList_none, List.cons_append, List.nil_append, sc_i, sc_r, sc_l, sc_u, sc_s, List.length_nil, List.length_cons, Nat.reduceAdd, Nat.reduceLeDiff, Nat.zero_le, le4_0, le4_1, le4_2, le4_3, rz0, rz1, rzt, eq_self, fo_f, fo_a, fo_j, co_f, co_a, co_j, ao_f, ao_a, ao_j, zo_f, zo_a, zo_j, jo_f, jo_a, jo_j, al_f, al_a, al_j, fg_a, fg_j, ag_f, ag_j, jg_f, jg_a, fk_f, fk_a, fk_j, fi_a, fi_j, tI_0, tI_n0, if_true, if_false, ne_eq, not_true_eq_false, not_false_eq_true, and_self, Bool.false_eq_true, oc64 okW, of64_0 okW, og64_0 okW, ok64_0 okW, of64_1 okW, og64_1 okW, of64_2 okW, og64_2 okW, of64_3 okW, og64_3 okW, of64_4 okW, og64_4 okW, of64_5 okW, og64_5 okW, ok64_5 okW, of64_6 okW, og64_6 okW, ok64_6 okW, of64_7 okW, og64_7 okW, of64_8 okW, og64_8 okW, of64_9 okW, og64_9 okW, of64_10 okW, og64_10 okW, of64_11 okW, og64_11 okW, of64_12 okW, og64_12 okW, of64_13 okW, og64_13 okW, ok64_13 okW, of64_14 okW, og64_14 okW, of64_15 okW, og64_15 okW, ok64_15 okW, of64_16 okW, og64_16 okW, of64_17 okW, og64_17 okW, of64_18 okW, og64_18 okW, of64_19 okW, og64_19 okW, of64_20 okW, og64_20 okW, of64_21 okW, og64_21 okW, ok64_21 okW, of64_22 okW, og64_22 okW, of64_23 okW, og64_23 okW, ok64_23 okW, of64_24 okW, og64_24 okW, ok64_24 okW, of64_25 okW, og64_25 okW, ok64_25 okW, of64_26 okW, og64_26 okW, ok64_26 okW, of64_27 okW, og64_27 okW, ok64_27 okW, of64_28 okW, og64_28 okW, of64_29 okW, og64_29 okW, of64_30 okW, og64_30 okW, of64_31 okW, og64_31 okW, of64_32 okW, og64_32 okW, of64_33 okW, og64_33 okW, of64_34 okW, og64_34 okW, of64_35 okW, og64_35 okW, ok64_35 okW, of64_36 okW, og64_36 okW, ok64_36 okW, g21, geN (show k + 1 < 1000 by omega) (show b < 1000 by omega), z]
          · simp only [z121_27, z121_28, z121_31, z121_34, z121_35, z121_38, Option.bind_some, Option.toList_some, Option.toList_none, List.cons_append, List.nil_append, sc_i, sc_r, sc_l, sc_u, sc_s, List.length_nil, List.length_cons, Nat.reduceAdd, Nat.reduceLeDiff, Nat.zero_le, le4_0, le4_1, le4_2, le4_3, rz0, rz1, rzt, eq_self, fo_f, fo_a, fo_j, co_f, co_a, co_j, ao_f, ao_a, ao_j, zo_f, zo_a, zo_j, jo_f, jo_a, jo_j, al_f, al_a, al_j, fg_a, fg_j, ag_f, ag_j, jg_f, jg_a, fk_f, fk_a, fk_j, fi_a, fi_j, tI_0, tI_n0, if_true, if_false, ne_eq, not_true_eq_false, not_false_eq_true, and_self, Bool.false_eq_true, oc64 okW, of64_0 okW, og64_0 okW, ok64_0 okW, of64_1 okW, og64_1 okW, of64_2 okW, og64_2 okW, of64_3 okW, og64_3 okW, of64_4 okW, og64_4 okW, of64_5 okW, og64_5 okW, ok64_5 okW, of64_6 okW, og64_6 okW, ok64_6 okW, of64_7 okW, og64_7 okW, of64_8 okW, og64_8 okW, of64_9 okW, og64_9 okW, of64_10 okW, og64_10 okW, of64_11 okW, og64_11 okW, of64_12 okW, og64_12 okW, of64_13 okW, og64_13 okW, ok64_13 okW, of64_14 okW, og64_14 okW, of64_15 okW, og64_15 okW, ok64_15 okW, of64_16 okW, og64_16 okW, of64_17 okW, og64_17 okW, of64_18 okW, og64_18 okW, of64_19 okW, og64_19 okW, of64_20 okW, og64_20 okW, of64_21 okW, og64_21 okW, ok64_21 okW, of64_22 okW, og64_22 okW, of64_23 okW, og64_23 okW, ok64_23 okW, of64_24 okW, og64_24 okW, ok64_24 okW, of64_25 okW, og64_25 okW, ok64_25 okW, of64_26 okW, og64_26 okW, ok64_26 okW, of64_27 okW, og64_27 okW, ok64_27 okW, of64_28 okW, og64_28 okW, of64_29 okW, og64_29 okW, of64_30 okW, og64_30 okW, of64_31 okW, og64_31 okW, of64_32 okW, og64_32 okW, of64_33 okW, og64_33 okW, of64_34 okW, og64_34 okW, of64_35 okW, og64_35 okW, ok64_35 okW, of64_36 okW, og64_36 okW, ok64_36 okW, g21, g23, geN (show k + 1 < 1000 by omega) (show b < 1000 by omega), z, ek]
        rw [← hx, z121_26]
        simp only [z121_0, z121_1, z121_3, z121_6, z121_7, z121_9, z121_12, z121_13, z121_15, z121_18, z121_19, z121_21, z121_24, z121_25, z121_27, z121_28, z121_31, z121_34, z121_35, z121_38, z121_41, z121_42, z121_43, z121_46, z121_47, z121_48, z121_49, z121_52, z121_53, z121_54, z121_55, z121_58, z121_59, z121_60, z121_63, z121_64, z121_65, z121_66, z121_69, z121_70, z121_73, z121_75, z121_78, z121_79, z121_80, z121_83, z121_84, z121_87, z121_89, z121_92, z121_93, z121_96, z121_97, z121_98, z121_101, z121_104, z121_108, z121_109, z121_112, z121_113, z121_116, z121_118, z121_119, z121_120, z121_123, Option.bind_some, Option.toList_some, Option.toList_none, List.cons_append, List.nil_append, sc_i, sc_r, sc_l, sc_u, sc_s, List.length_nil, List.length_cons, Nat.reduceAdd, Nat.reduceLeDiff, Nat.zero_le, le4_0, le4_1, le4_2, le4_3, rz0, rz1, rzt, eq_self, fo_f, fo_a, fo_j, co_f, co_a, co_j, ao_f, ao_a, ao_j, zo_f, zo_a, zo_j, jo_f, jo_a, jo_j, al_f, al_a, al_j, fg_a, fg_j, ag_f, ag_j, jg_f, jg_a, fk_f, fk_a, fk_j, fi_a, fi_j, tI_0, tI_n0, if_true, if_false, ne_eq, not_true_eq_false, not_false_eq_true, and_self, Bool.false_eq_true, hv, oc64 h0, of64_0 h0, og64_0 h0, ok64_0 h0, of64_1 h0, og64_1 h0, of64_2 h0, og64_2 h0, of64_3 h0, og64_3 h0, of64_4 h0, og64_4 h0, of64_5 h0, og64_5 h0, ok64_5 h0, of64_6 h0, og64_6 h0, ok64_6 h0, of64_7 h0, og64_7 h0, of64_8 h0, og64_8 h0, of64_9 h0, og64_9 h0, of64_10 h0, og64_10 h0, of64_11 h0, og64_11 h0, of64_12 h0, og64_12 h0, of64_13 h0, og64_13 h0, ok64_13 h0, of64_14 h0, og64_14 h0, of64_15 h0, og64_15 h0, ok64_15 h0, of64_16 h0, og64_16 h0, of64_17 h0, og64_17 h0, of64_18 h0, og64_18 h0, of64_19 h0, og64_19 h0, of64_20 h0, og64_20 h0, of64_21 h0, og64_21 h0, ok64_21 h0, of64_22 h0, og64_22 h0, of64_23 h0, og64_23 h0, ok64_23 h0, of64_24 h0, og64_24 h0, ok64_24 h0, of64_25 h0, og64_25 h0, ok64_25 h0, of64_26 h0, og64_26 h0, ok64_26 h0, of64_27 h0, og64_27 h0, ok64_27 h0, of64_28 h0, og64_28 h0, of64_29 h0, og64_29 h0, of64_30 h0, og64_30 h0, of64_31 h0, og64_31 h0, of64_32 h0, og64_32 h0, of64_33 h0, og64_33 h0, of64_34 h0, og64_34 h0, of64_35 h0, og64_35 h0, ok64_35 h0, of64_36 h0, og64_36 h0, ok64_36 h0, oa76 h0, ol76 h0, oa77 h0, ol77 h0, oa78 h0, ol78 h0, tb.2.2, geN (show k < 1000 by omega) (show b < 1000 by omega), e1, f23, e6, b60 hk60, c60 hk60, hw, mz, m0, c0, ← hW, nI_1]
theorem x_knL {X : Scr} : ∀ (n i : Nat), i + n = 8 → ∀ w : AW, OK w → (∀ t, t < i → aget w 81 t = aget w 66 t) → ∃ w', Z X 120 2 [.ref 64, .int (nI i)] [] w = Z X 120 26 [.ref 64, .int (nI 8)] [] w' ∧ OK w' ∧ (∀ t, t < 8 → aget w' 81 t = aget w 66 t) ∧ (∀ a, ¬ a = 81 → aget w' a = aget w a) ∧ ∀ f k, fI w' f k = fI w f k := by
  intro n
  induction n with
  | zero =>
    intro i hi w h0 ht
    have hi : i = 8 := hi
    subst hi
    have e : nI 8 ≥ 8 := by decide
    refine ⟨w, ?_, h0, ht, fun _ _ => rfl, fun _ _ => rfl⟩
    rw [z120_2]
    simp only [z120_3, z120_5, Option.bind_some, Option.toList_some, Option.toList_none, List.cons_append, List.nil_append, sc_i, sc_r, sc_l, sc_u, sc_s, List.length_nil, List.length_cons, Nat.reduceAdd, Nat.reduceLeDiff, Nat.zero_le, le4_0, le4_1, le4_2, le4_3, rz0, rz1, rzt, eq_self, tI_0, tI_n0, if_true, if_false, ne_eq, not_true_eq_false, not_false_eq_true, and_self, Bool.false_eq_true, e]
  | succ n ih =>
    intro i hi w h0 ht
    have hi8 : i < 8 := by omega
    have b11 : inB (nI i) 11 = true := inB_nI (by omega) (by decide)
    obtain ⟨w', r1, r2, r3, r4, r5⟩ := ih (i + 1) (by omega) (aset w 81 (upd (aget w 81) i (aget w 66 i))) (ok_a h0) (fun t ht' => by
      rw [ag_s (oa81 h0), ag_n (by decide), updI]
      by_cases q : t = i
      · rw [if_pos q, q]
      · rw [if_neg q]; exact ht t (by omega))
    refine ⟨w', ?_, r2, fun t ht' => ?_, fun a ha => ?_, fun f k => ?_⟩
    · rw [← r1, z120_2]
      simp only [z120_3, z120_5, z120_8, z120_9, z120_12, z120_13, z120_14, z120_17, z120_18, z120_19, z120_20, z120_23, Option.bind_some, Option.toList_some, Option.toList_none, List.cons_append, List.nil_append, sc_i, sc_r, sc_l, sc_u, sc_s, List.length_nil, List.length_cons, Nat.reduceAdd, Nat.reduceLeDiff, Nat.zero_le, le4_0, le4_1, le4_2, le4_3, rz0, rz1, rzt, eq_self, fo_f, fo_a, fo_j, co_f, co_a, co_j, ao_f, ao_a, ao_j, zo_f, zo_a, zo_j, jo_f, jo_a, jo_j, al_f, al_a, al_j, fg_a, fg_j, ag_f, ag_j, jg_f, jg_a, fk_f, fk_a, fk_j, fi_a, fi_j, tI_0, tI_n0, if_true, if_false, ne_eq, not_true_eq_false, not_false_eq_true, and_self, Bool.false_eq_true, nI_nge8 hi8, oc64 h0, of64_0 h0, og64_0 h0, ok64_0 h0, of64_1 h0, og64_1 h0, of64_2 h0, og64_2 h0, of64_3 h0, og64_3 h0, of64_4 h0, og64_4 h0, of64_5 h0, og64_5 h0, ok64_5 h0, of64_6 h0, og64_6 h0, ok64_6 h0, of64_7 h0, og64_7 h0, of64_8 h0, og64_8 h0, of64_9 h0, og64_9 h0, of64_10 h0, og64_10 h0, of64_11 h0, og64_11 h0, of64_12 h0, og64_12 h0, of64_13 h0, og64_13 h0, ok64_13 h0, of64_14 h0, og64_14 h0, of64_15 h0, og64_15 h0, ok64_15 h0, of64_16 h0, og64_16 h0, of64_17 h0, og64_17 h0, of64_18 h0, og64_18 h0, of64_19 h0, og64_19 h0, of64_20 h0, og64_20 h0, of64_21 h0, og64_21 h0, ok64_21 h0, of64_22 h0, og64_22 h0, of64_23 h0, og64_23 h0, ok64_23 h0, of64_24 h0, og64_24 h0, ok64_24 h0, of64_25 h0, og64_25 h0, ok64_25 h0, of64_26 h0, og64_26 h0, ok64_26 h0, of64_27 h0, og64_27 h0, ok64_27 h0, of64_28 h0, og64_28 h0, of64_29 h0, og64_29 h0, of64_30 h0, og64_30 h0, of64_31 h0, og64_31 h0, of64_32 h0, og64_32 h0, of64_33 h0, og64_33 h0, of64_34 h0, og64_34 h0, of64_35 h0, og64_35 h0, ok64_35 h0, of64_36 h0, og64_36 h0, ok64_36 h0, oa66 h0, ol66 h0, oa81 h0, ol81 h0, b8 hi8, c8 hi8, b11, nI_1]
    · rw [r3 t ht', ag_n (by decide)]
    · rw [r4 a ha, ag_n (fun e => ha e.symm)]
    · rw [r5, fi_a]
def HD (w w' : AW) : Prop := (∀ t, t < 8 → aget w' 81 t = aget w 66 t) ∧ aget w' 81 8 = fI w 64 0 ∧ aget w' 81 9 = fI w 64 5 ∧ aget w' 81 10 = fI w 64 6
theorem x_kn {X : Scr} {w : AW} (h0 : OK w) : ∃ w', Z X 120 0 [.ref 64, uns] [] w = some (none, w') ∧ OK w' ∧ HD w w' ∧ (∀ a, ¬ a = 81 → aget w' a = aget w a) ∧ ∀ f k, fI w' f k = fI w f k := by
  obtain ⟨w1, r1, r2, r3, r4, r5⟩ := x_knL (X := X) 8 0 rfl w h0 (fun t ht => absurd ht (Nat.not_lt_zero t))
  have z0 : nI 0 = 0 := rfl
  rw [z0] at r1
  have b8' : inB 8 11 = true := by decide
  have b9 : inB 9 11 = true := by decide
  have b10' : inB 10 11 = true := by decide
  have c8' : (8 : Int32).toNatClampNeg = 8 := rfl
  have c9 : (9 : Int32).toNatClampNeg = 9 := rfl
  have c10' : (10 : Int32).toNatClampNeg = 10 := rfl
  refine ⟨aset w1 81 (upd (upd (upd (aget w1 81) 8 (fI w1 64 0)) 9 (fI w1 64 5)) 10 (fI w1 64 6)), ?_, ok_a r2, ⟨fun t ht => ?_, ?_, ?_, ?_⟩, fun a ha => ?_, fun f k => ?_⟩
  · simp only [z120_0, z120_1, z120_3, z120_5, z120_8, z120_9, z120_12, z120_13, z120_14, z120_17, z120_18, z120_19, z120_20, z120_23, z120_26, z120_27, z120_30, z120_32, z120_33, z120_36, z120_37, z120_38, z120_41, z120_43, z120_44, z120_47, z120_48, z120_49, z120_52, z120_54, z120_55, z120_58, z120_59, Option.bind_some, Option.toList_some, Option.toList_none, List.cons_append, List.nil_append, sc_i, sc_r, sc_l, sc_u, sc_s, List.length_nil, List.length_cons, Nat.reduceAdd, Nat.reduceLeDiff, Nat.zero_le, le4_0, le4_1, le4_2, le4_3, rz0, rz1, rzt, eq_self, fo_f, fo_a, fo_j, co_f, co_a, co_j, ao_f, ao_a, ao_j, zo_f, zo_a, zo_j, jo_f, jo_a, jo_j, al_f, al_a, al_j, fg_a, fg_j, ag_f, ag_j, jg_f, jg_a, fk_f, fk_a, fk_j, fi_a, fi_j, ag_s, ag_z, ag_n, fi_s, fi_n, fg_s, fg_n, jg_s, jg_n, Nat.reduceEqDiff, not_false_eq_true, and_false, false_and, true_and, and_true, and_self, r1, oc64 r2, of64_0 r2, og64_0 r2, ok64_0 r2, of64_1 r2, og64_1 r2, of64_2 r2, og64_2 r2, of64_3 r2, og64_3 r2, of64_4 r2, og64_4 r2, of64_5 r2, og64_5 r2, ok64_5 r2, of64_6 r2, og64_6 r2, ok64_6 r2, of64_7 r2, og64_7 r2, of64_8 r2, og64_8 r2, of64_9 r2, og64_9 r2, of64_10 r2, og64_10 r2, of64_11 r2, og64_11 r2, of64_12 r2, og64_12 r2, of64_13 r2, og64_13 r2, ok64_13 r2, of64_14 r2, og64_14 r2, of64_15 r2, og64_15 r2, ok64_15 r2, of64_16 r2, og64_16 r2, of64_17 r2, og64_17 r2, of64_18 r2, og64_18 r2, of64_19 r2, og64_19 r2, of64_20 r2, og64_20 r2, of64_21 r2, og64_21 r2, ok64_21 r2, of64_22 r2, og64_22 r2, of64_23 r2, og64_23 r2, ok64_23 r2, of64_24 r2, og64_24 r2, ok64_24 r2, of64_25 r2, og64_25 r2, ok64_25 r2, of64_26 r2, og64_26 r2, ok64_26 r2, of64_27 r2, og64_27 r2, ok64_27 r2, of64_28 r2, og64_28 r2, of64_29 r2, og64_29 r2, of64_30 r2, og64_30 r2, of64_31 r2, og64_31 r2, of64_32 r2, og64_32 r2, of64_33 r2, og64_33 r2, of64_34 r2, og64_34 r2, of64_35 r2, og64_35 r2, ok64_35 r2, of64_36 r2, og64_36 r2, ok64_36 r2, oa81 r2, ol81 r2, b8', b9, b10', c8', c9, c10', as_s]
  · rw [ag_s (oa81 r2), updI, if_neg (by omega), updI, if_neg (by omega), updI, if_neg (by omega)]
    exact r3 t ht
  · rw [ag_s (oa81 r2), updI, if_neg (by decide), updI, if_neg (by decide), updI, if_pos rfl, r5]
  · rw [ag_s (oa81 r2), updI, if_neg (by decide), updI, if_pos rfl, r5]
  · rw [ag_s (oa81 r2), updI, if_pos rfl, r5]
  · rw [ag_n (fun e => ha e.symm), r4 a ha]
  · rw [fi_a, r5]
theorem x_bkL {X : Scr} {v : Value} : ∀ (n i : Nat), i + n = 8 → ∀ w : AW, OK w → (∀ t, t < i → aget w 66 t = aget w 81 t) → ∃ w', Z X 129 2 [.ref 64, v, .int (nI i)] [] w = Z X 129 26 [.ref 64, v, .int (nI 8)] [] w' ∧ OK w' ∧ (∀ t, t < 8 → aget w' 66 t = aget w 81 t) ∧ (∀ a, ¬ a = 66 → aget w' a = aget w a) ∧ ∀ f k, fI w' f k = fI w f k := by
  intro n
  induction n with
  | zero =>
    intro i hi w h0 ht
    have hi : i = 8 := hi
    subst hi
    have e : nI 8 ≥ 8 := by decide
    refine ⟨w, ?_, h0, ht, fun _ _ => rfl, fun _ _ => rfl⟩
    rw [z129_2]
    simp only [z129_3, z129_5, Option.bind_some, Option.toList_some, Option.toList_none, List.cons_append, List.nil_append, sc_i, sc_r, sc_l, sc_u, sc_s, List.length_nil, List.length_cons, Nat.reduceAdd, Nat.reduceLeDiff, Nat.zero_le, le4_0, le4_1, le4_2, le4_3, rz0, rz1, rzt, eq_self, tI_0, tI_n0, if_true, if_false, ne_eq, not_true_eq_false, not_false_eq_true, and_self, Bool.false_eq_true, e]
  | succ n ih =>
    intro i hi w h0 ht
    have hi8 : i < 8 := by omega
    have b11 : inB (nI i) 11 = true := inB_nI (by omega) (by decide)
    obtain ⟨w', r1, r2, r3, r4, r5⟩ := ih (i + 1) (by omega) (aset w 66 (upd (aget w 66) i (aget w 81 i))) (ok_a h0) (fun t ht' => by
      rw [ag_s (oa66 h0), ag_n (by decide), updI]
      by_cases q : t = i
      · rw [if_pos q, q]
      · rw [if_neg q]; exact ht t (by omega))
    refine ⟨w', ?_, r2, fun t ht' => ?_, fun a ha => ?_, fun f k => ?_⟩
    · rw [← r1, z129_2]
      simp only [z129_3, z129_5, z129_8, z129_9, z129_12, z129_13, z129_14, z129_17, z129_18, z129_19, z129_20, z129_23, Option.bind_some, Option.toList_some, Option.toList_none, List.cons_append, List.nil_append, sc_i, sc_r, sc_l, sc_u, sc_s, List.length_nil, List.length_cons, Nat.reduceAdd, Nat.reduceLeDiff, Nat.zero_le, le4_0, le4_1, le4_2, le4_3, rz0, rz1, rzt, eq_self, fo_f, fo_a, fo_j, co_f, co_a, co_j, ao_f, ao_a, ao_j, zo_f, zo_a, zo_j, jo_f, jo_a, jo_j, al_f, al_a, al_j, fg_a, fg_j, ag_f, ag_j, jg_f, jg_a, fk_f, fk_a, fk_j, fi_a, fi_j, tI_0, tI_n0, if_true, if_false, ne_eq, not_true_eq_false, not_false_eq_true, and_self, Bool.false_eq_true, nI_nge8 hi8, oc64 h0, of64_0 h0, og64_0 h0, ok64_0 h0, of64_1 h0, og64_1 h0, of64_2 h0, og64_2 h0, of64_3 h0, og64_3 h0, of64_4 h0, og64_4 h0, of64_5 h0, og64_5 h0, ok64_5 h0, of64_6 h0, og64_6 h0, ok64_6 h0, of64_7 h0, og64_7 h0, of64_8 h0, og64_8 h0, of64_9 h0, og64_9 h0, of64_10 h0, og64_10 h0, of64_11 h0, og64_11 h0, of64_12 h0, og64_12 h0, of64_13 h0, og64_13 h0, ok64_13 h0, of64_14 h0, og64_14 h0, of64_15 h0, og64_15 h0, ok64_15 h0, of64_16 h0, og64_16 h0, of64_17 h0, og64_17 h0, of64_18 h0, og64_18 h0, of64_19 h0, og64_19 h0, of64_20 h0, og64_20 h0, of64_21 h0, og64_21 h0, ok64_21 h0, of64_22 h0, og64_22 h0, of64_23 h0, og64_23 h0, ok64_23 h0, of64_24 h0, og64_24 h0, ok64_24 h0, of64_25 h0, og64_25 h0, ok64_25 h0, of64_26 h0, og64_26 h0, ok64_26 h0, of64_27 h0, og64_27 h0, ok64_27 h0, of64_28 h0, og64_28 h0, of64_29 h0, og64_29 h0, of64_30 h0, og64_30 h0, of64_31 h0, og64_31 h0, of64_32 h0, og64_32 h0, of64_33 h0, og64_33 h0, of64_34 h0, og64_34 h0, of64_35 h0, og64_35 h0, ok64_35 h0, of64_36 h0, og64_36 h0, ok64_36 h0, oa66 h0, ol66 h0, oa81 h0, ol81 h0, b8 hi8, c8 hi8, b11, nI_1]
    · rw [r3 t ht', ag_n (by decide)]
    · rw [r4 a ha, ag_n (fun e => ha e.symm)]
    · rw [r5, fi_a]
theorem x_bk {X : Scr} {w : AW} {v : Int32} (h0 : OK w) : ∃ w', Z X 129 0 [.ref 64, .int v, uns] [] w = some (some (.int v), w') ∧ OK w' ∧ (∀ t, t < 8 → aget w' 66 t = aget w 81 t) ∧ fI w' 64 0 = aget w 81 8 ∧ fI w' 64 5 = aget w 81 9 ∧ fI w' 64 6 = aget w 81 10 ∧ FM w w' := by
  obtain ⟨w1, r1, r2, r3, r4, r5⟩ := x_bkL (X := X) (v := .int v) 8 0 rfl w h0 (fun t ht => absurd ht (Nat.not_lt_zero t))
  have z0 : nI 0 = 0 := rfl
  rw [z0] at r1
  have b8' : inB 8 11 = true := by decide
  have b9 : inB 9 11 = true := by decide
  have b10' : inB 10 11 = true := by decide
  have c8' : (8 : Int32).toNatClampNeg = 8 := rfl
  have c9 : (9 : Int32).toNatClampNeg = 9 := rfl
  have c10' : (10 : Int32).toNatClampNeg = 10 := rfl
  have h81 := r4 81 (by decide)
  have ok1 : OK (fset w1 64 0 (.int (aget w1 81 8))) := ok_f r2 (by decide)
  have ok2 : OK (fset (fset w1 64 0 (.int (aget w1 81 8))) 64 5 (.int (aget w1 81 9))) := ok_f ok1 (by decide)
  refine ⟨fset (fset (fset w1 64 0 (.int (aget w1 81 8))) 64 5 (.int (aget w1 81 9))) 64 6 (.int (aget w1 81 10)), ?_, ok_f ok2 (by decide), fun t ht => ?_, ?_, ?_, ?_, fm_tr ⟨r4, fun f k _ => r5 f k⟩ (fm_tr (fm_tr (fm_f (by decide)) (fm_f (by decide))) (fm_f (by decide)))⟩
  · simp only [z129_0, z129_1, z129_3, z129_5, z129_8, z129_9, z129_12, z129_13, z129_14, z129_17, z129_18, z129_19, z129_20, z129_23, z129_26, z129_27, z129_28, z129_31, z129_33, z129_34, z129_37, z129_38, z129_39, z129_42, z129_44, z129_45, z129_48, z129_49, z129_50, z129_53, z129_55, z129_56, z129_59, z129_60, Option.bind_some, Option.toList_some, Option.toList_none, List.cons_append, List.nil_append, sc_i, sc_r, sc_l, sc_u, sc_s, List.length_nil, List.length_cons, Nat.reduceAdd, Nat.reduceLeDiff, Nat.zero_le, le4_0, le4_1, le4_2, le4_3, rz0, rz1, rzt, eq_self, fo_f, fo_a, fo_j, co_f, co_a, co_j, ao_f, ao_a, ao_j, zo_f, zo_a, zo_j, jo_f, jo_a, jo_j, al_f, al_a, al_j, fg_a, fg_j, ag_f, ag_j, jg_f, jg_a, fk_f, fk_a, fk_j, fi_a, fi_j, ag_s, ag_z, ag_n, fi_s, fi_n, fg_s, fg_n, jg_s, jg_n, Nat.reduceEqDiff, not_false_eq_true, and_false, false_and, true_and, and_true, and_self, r1, oc64 r2, of64_0 r2, og64_0 r2, ok64_0 r2, of64_1 r2, og64_1 r2, of64_2 r2, og64_2 r2, of64_3 r2, og64_3 r2, of64_4 r2, og64_4 r2, of64_5 r2, og64_5 r2, ok64_5 r2, of64_6 r2, og64_6 r2, ok64_6 r2, of64_7 r2, og64_7 r2, of64_8 r2, og64_8 r2, of64_9 r2, og64_9 r2, of64_10 r2, og64_10 r2, of64_11 r2, og64_11 r2, of64_12 r2, og64_12 r2, of64_13 r2, og64_13 r2, ok64_13 r2, of64_14 r2, og64_14 r2, of64_15 r2, og64_15 r2, ok64_15 r2, of64_16 r2, og64_16 r2, of64_17 r2, og64_17 r2, of64_18 r2, og64_18 r2, of64_19 r2, og64_19 r2, of64_20 r2, og64_20 r2, of64_21 r2, og64_21 r2, ok64_21 r2, of64_22 r2, og64_22 r2, of64_23 r2, og64_23 r2, ok64_23 r2, of64_24 r2, og64_24 r2, ok64_24 r2, of64_25 r2, og64_25 r2, ok64_25 r2, of64_26 r2, og64_26 r2, ok64_26 r2, of64_27 r2, og64_27 r2, ok64_27 r2, of64_28 r2, og64_28 r2, of64_29 r2, og64_29 r2, of64_30 r2, og64_30 r2, of64_31 r2, og64_31 r2, of64_32 r2, og64_32 r2, of64_33 r2, og64_33 r2, of64_34 r2, og64_34 r2, of64_35 r2, og64_35 r2, ok64_35 r2, of64_36 r2, og64_36 r2, ok64_36 r2, oa81 r2, ol81 r2, b8', b9, b10', c8', c9, c10']
  · rw [ag_f, ag_f, ag_f]; exact r3 t ht
  · rw [fi_n (by decide), fi_n (by decide), fi_s (ok64_0 r2), h81]
  · rw [fi_n (by decide), fi_s (ok64_5 ok1), h81]
  · rw [fi_s (ok64_6 ok2), h81]
