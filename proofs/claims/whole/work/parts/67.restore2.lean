/-! restore, the second -/
theorem op_restore1 {X : Scr} {w : AW} (h : SI w) : both X 90 164 [.ref 0, .int 1, uns] [.ref 64, .int 1] w := by
  obtain ⟨h0, h1, h2, h3, h4, h5, h6, h7, h8, h9⟩ := id h
  obtain ⟨z1, z2, z3, z4, z5, z6⟩ := id h9
  have k01 : (0 : Int32) ≤ 1 ∧ (1 : Int32) ≤ 1 := by decide
  have bq2 : inB 1 2 = true := by decide
  have cq2 : (1 : Int32).toNatClampNeg = 1 := rfl
  have e1 : ¬ (1 : Int32) = 0 := by decide
  by_cases hk : fI w 50 3 = 0
  · have hk' := hk
    rw [z1] at hk'
    refine ⟨.int (-3), w, w, ?_, ?_, h⟩
    · simp only [z90_0, z90_1, z90_2, z90_3, z90_6, z90_9, z90_11, z90_12, z90_13, z90_14, z90_17, z90_18, z90_19, z90_22, z90_25, z90_27, z90_28, z90_29, z90_32, z90_33, z90_36, z90_39, z90_40, z90_43, z90_44, z90_47, z90_50, z90_51, z90_54, z90_55, z90_58, z90_61, z90_62, z87_0, z87_1, z87_4, z87_5, z87_8, z87_11, z87_12, z87_15, Option.bind_some, Option.toList_some, Option.toList_none, List.cons_append, List.nil_append, sc_i, sc_r, sc_l, sc_u, sc_s, List.length_nil, List.length_cons, Nat.reduceAdd, Nat.reduceLeDiff, Nat.zero_le, le4_0, le4_1, le4_2, le4_3, rz0, rz1, rzt, eq_self, tI_0, tI_n0, if_true, if_false, ne_eq, not_true_eq_false, not_false_eq_true, and_self, Bool.false_eq_true, e1, x_isIn, k01, oc0 h0, of0_0 h0, og0_0 h0, of0_1 h0, og0_1 h0, of0_2 h0, og0_2 h0, of0_3 h0, og0_3 h0, of0_4 h0, og0_4 h0, of0_5 h0, og0_5 h0, of0_6 h0, og0_6 h0, of0_7 h0, og0_7 h0, of0_8 h0, og0_8 h0, of0_9 h0, og0_9 h0, of0_10 h0, og0_10 h0, oc50 h0, of50_0 h0, og50_0 h0, of50_1 h0, og50_1 h0, of50_2 h0, og50_2 h0, of50_3 h0, og50_3 h0, ok50_3 h0, hk]
    · simp only [z164_0, z164_1, z164_2, z164_3, z164_4, z164_7, z164_10, z164_12, z164_13, z164_14, z164_17, z164_18, z164_19, z164_22, z164_24, z164_25, z164_26, z164_28, z164_29, z164_30, z164_33, z164_34, z164_35, z164_38, z164_39, z164_42, z164_43, Option.bind_some, Option.toList_some, Option.toList_none, List.cons_append, List.nil_append, sc_i, sc_r, sc_l, sc_u, sc_s, List.length_nil, List.length_cons, Nat.reduceAdd, Nat.reduceLeDiff, Nat.zero_le, le4_0, le4_1, le4_2, le4_3, rz0, rz1, rzt, eq_self, tI_0, tI_n0, if_true, if_false, ne_eq, not_true_eq_false, not_false_eq_true, and_self, Bool.false_eq_true, x_mIn, mInC (lo := 0) (hi := 1) 0 1 rfl rfl, k01, oc64 h0, of64_0 h0, og64_0 h0, ok64_0 h0, of64_1 h0, og64_1 h0, of64_2 h0, og64_2 h0, of64_3 h0, og64_3 h0, of64_4 h0, og64_4 h0, of64_5 h0, og64_5 h0, ok64_5 h0, of64_6 h0, og64_6 h0, ok64_6 h0, of64_7 h0, og64_7 h0, of64_8 h0, og64_8 h0, of64_9 h0, og64_9 h0, of64_10 h0, og64_10 h0, of64_11 h0, og64_11 h0, of64_12 h0, og64_12 h0, of64_13 h0, og64_13 h0, ok64_13 h0, of64_14 h0, og64_14 h0, of64_15 h0, og64_15 h0, ok64_15 h0, of64_16 h0, og64_16 h0, of64_17 h0, og64_17 h0, of64_18 h0, og64_18 h0, of64_19 h0, og64_19 h0, of64_20 h0, og64_20 h0, of64_21 h0, og64_21 h0, ok64_21 h0, of64_22 h0, og64_22 h0, of64_23 h0, og64_23 h0, ok64_23 h0, of64_24 h0, og64_24 h0, ok64_24 h0, of64_25 h0, og64_25 h0, ok64_25 h0, of64_26 h0, og64_26 h0, ok64_26 h0, of64_27 h0, og64_27 h0, ok64_27 h0, of64_28 h0, og64_28 h0, of64_29 h0, og64_29 h0, of64_30 h0, og64_30 h0, of64_31 h0, og64_31 h0, of64_32 h0, og64_32 h0, of64_33 h0, og64_33 h0, of64_34 h0, og64_34 h0, of64_35 h0, og64_35 h0, ok64_35 h0, of64_36 h0, og64_36 h0, ok64_36 h0, oa88 h0, ol88 h0, bq2, cq2, hk']
  · have hk1 : fI w 50 3 = 1 := by
      obtain ⟨m, hm, hm2⟩ := z2
      rcases Nat.le_one_iff_eq_zero_or_eq_one.mp hm with rfl | rfl
      · exact absurd hm2 hk
      · exact hm2
    obtain ⟨y1, y2, y3, y4, y5, y6⟩ := z6 hk1
    have hk' := hk
    rw [z1] at hk'
    have c1 := x_fcp (X := X) (ok_f1 h0) (ok_fam h0 (F := 51) (by decide)) (by decide)
    have ok1 : OK (fcp w 1 51) := fcp_ok h0 (by decide)
    have c2 := x_tcp (X := X) (ok_tsk ok1 (T := 19) (by decide)) (ok_tsk ok1 (T := 56) (by decide)) (by decide)
    have ok2 : OK (tcp (fcp w 1 51) 19 56) := tcp_ok ok1
    have g2 : ∀ c, ¬ c = 2 → ¬ c = 3 → ¬ c = 4 → ¬ c = 5 → ¬ c = 20 → ¬ c = 21 → ¬ c = 22 → aget (tcp (fcp w 1 51) 19 56) c = aget w c := fun c z1 z2 z3 z4 z5 z6 z7 => (tcp_o z5 z6 z7).trans (fcp_o z1 z2 z3 z4)
    obtain ⟨w3, c3, ok3', n3, o3, l3, f3⟩ := x_scp (X := X) (w := tcp (fcp w 1 51) 19 56) (S := 23) (Q := 60) (by decide) (ok_sgt ok2 (by decide)) (ok_sgt ok2 (by decide)) (fun j hj => by rw [g2 (60 + 3) (by decide) (by decide) (by decide) (by decide) (by decide) (by decide) (by decide)]; exact (z5.1 j hj).2.2) (fun w1 x o1 => ok_f o1 (by decide))
    have ok3 := ok3' ok2
    have eT : Z X 90 0 [.ref 0, .int 1, uns] [] w = some (some (.int 1), w3) := by
      simp only [z90_0, z90_1, z90_2, z90_3, z90_6, z90_9, z90_11, z90_12, z90_13, z90_14, z90_17, z90_18, z90_19, z90_22, z90_25, z90_27, z90_28, z90_29, z90_32, z90_33, z90_36, z90_39, z90_40, z90_43, z90_44, z90_47, z90_50, z90_51, z90_54, z90_55, z90_58, z90_61, z90_62, z87_0, z87_1, z87_4, z87_5, z87_8, z87_11, z87_12, z87_15, Option.bind_some, Option.toList_some, Option.toList_none, List.cons_append, List.nil_append, sc_i, sc_r, sc_l, sc_u, sc_s, List.length_nil, List.length_cons, Nat.reduceAdd, Nat.reduceLeDiff, Nat.zero_le, le4_0, le4_1, le4_2, le4_3, rz0, rz1, rzt, eq_self, tI_0, tI_n0, if_true, if_false, ne_eq, not_true_eq_false, not_false_eq_true, and_self, Bool.false_eq_true, e1, x_isIn, k01, hk, oc0 h0, of0_0 h0, og0_0 h0, of0_1 h0, og0_1 h0, of0_2 h0, og0_2 h0, of0_3 h0, og0_3 h0, of0_4 h0, og0_4 h0, of0_5 h0, og0_5 h0, of0_6 h0, og0_6 h0, of0_7 h0, og0_7 h0, of0_8 h0, og0_8 h0, of0_9 h0, og0_9 h0, of0_10 h0, og0_10 h0, oc1 h0, of1_0 h0, og1_0 h0, of1_1 h0, og1_1 h0, of1_2 h0, og1_2 h0, of1_3 h0, og1_3 h0, of1_4 h0, og1_4 h0, ok1_4 h0, of1_5 h0, og1_5 h0, ok1_5 h0, of1_6 h0, og1_6 h0, ok1_6 h0, oc50 h0, of50_0 h0, og50_0 h0, of50_1 h0, og50_1 h0, of50_2 h0, og50_2 h0, of50_3 h0, og50_3 h0, ok50_3 h0, c1, oc0 ok1, of0_0 ok1, og0_0 ok1, of0_1 ok1, og0_1 ok1, of0_2 ok1, og0_2 ok1, of0_3 ok1, og0_3 ok1, of0_4 ok1, og0_4 ok1, of0_5 ok1, og0_5 ok1, of0_6 ok1, og0_6 ok1, of0_7 ok1, og0_7 ok1, of0_8 ok1, og0_8 ok1, of0_9 ok1, og0_9 ok1, of0_10 ok1, og0_10 ok1, oc19 ok1, of19_0 ok1, og19_0 ok1, of19_1 ok1, og19_1 ok1, of19_2 ok1, og19_2 ok1, of19_3 ok1, og19_3 ok1, ok19_3 ok1, of19_4 ok1, og19_4 ok1, ok19_4 ok1, oc50 ok1, of50_0 ok1, og50_0 ok1, of50_1 ok1, og50_1 ok1, of50_2 ok1, og50_2 ok1, of50_3 ok1, og50_3 ok1, ok50_3 ok1, c2, oc0 ok2, of0_0 ok2, og0_0 ok2, of0_1 ok2, og0_1 ok2, of0_2 ok2, og0_2 ok2, of0_3 ok2, og0_3 ok2, of0_4 ok2, og0_4 ok2, of0_5 ok2, og0_5 ok2, of0_6 ok2, og0_6 ok2, of0_7 ok2, og0_7 ok2, of0_8 ok2, og0_8 ok2, of0_9 ok2, og0_9 ok2, of0_10 ok2, og0_10 ok2, oc23 ok2, of23_0 ok2, og23_0 ok2, of23_1 ok2, og23_1 ok2, of23_2 ok2, og23_2 ok2, of23_3 ok2, og23_3 ok2, ok23_3 ok2, oc50 ok2, of50_0 ok2, og50_0 ok2, of50_1 ok2, og50_1 ok2, of50_2 ok2, og50_2 ok2, of50_3 ok2, og50_3 ok2, ok50_3 ok2, c3]
    have a3 : ∀ c, ¬ c = 2 → ¬ c = 3 → ¬ c = 4 → ¬ c = 5 → ¬ c = 20 → ¬ c = 21 → ¬ c = 22 → ¬ c = 24 → ¬ c = 25 → ¬ c = 26 → aget w3 c = aget w c := fun c z1 z2 z3 z4 z5 z6 z7 z8 z9 z10 => by
      rw [o3 c z8 z9 z10]; exact g2 c z1 z2 z3 z4 z5 z6 z7
    have f3' : ∀ f k, ¬ (23 = f ∧ 3 = k) → ¬ 1 = f → fI w3 f k = fI w f k := fun f k z1 z2 => by
      rw [f3 f k z1, tcp_f, fcp_fo (Or.inl z2)]
    obtain ⟨W5, hW5⟩ : ∃ x, x = fset (fset w3 64 35 (.int (nI 90))) 64 36 (.int 0) := ⟨_, rfl⟩
    have ok5 : OK W5 := by rw [hW5]; exact ok_f (ok_f ok3 (by decide)) (by decide)
    have k5 : fI W5 64 35 = nI 90 := by rw [hW5, fi_n (by decide), fi_s (ok64_35 ok3)]
    have i5 : fI W5 64 36 = 0 := by rw [hW5, fi_s (by rw [fk_f]; exact ok64_36 ok3)]
    have a5 : ∀ c, aget W5 c = aget w3 c := fun c => by rw [hW5, ag_f, ag_f]
    have f5 : ∀ f k, ¬ (64 = f ∧ 35 = k) → ¬ (64 = f ∧ 36 = k) → fI W5 f k = fI w3 f k := fun f k z1 z2 => by rw [hW5, fi_n z2, fi_n z1]
    obtain ⟨w6a, W6, c6, ps, pr⟩ := x_passAll (X := X) ok5 (by decide) k5
    obtain ⟨ok6, b87, b6, s6, a6, f6⟩ := pa_r ps pr i5
    have e90 : (90 : Int32) * 1 = nI 90 := rfl
    have hk3 : ¬ aget w3 88 1 = 0 := by
      rw [a3 88 (by decide) (by decide) (by decide) (by decide) (by decide) (by decide) (by decide) (by decide) (by decide) (by decide)]
      exact hk'
    have eM : Z X 164 0 [.ref 64, .int 1] [] w3 = some (some (.int 1), W6) := by
      simp only [z164_0, z164_1, z164_2, z164_3, z164_4, z164_7, z164_10, z164_12, z164_13, z164_14, z164_17, z164_18, z164_19, z164_22, z164_24, z164_25, z164_26, z164_28, z164_29, z164_30, z164_33, z164_34, z164_35, z164_38, z164_39, z164_42, z164_43, Option.bind_some, Option.toList_some, Option.toList_none, List.cons_append, List.nil_append, sc_i, sc_r, sc_l, sc_u, sc_s, List.length_nil, List.length_cons, Nat.reduceAdd, Nat.reduceLeDiff, Nat.zero_le, le4_0, le4_1, le4_2, le4_3, rz0, rz1, rzt, eq_self, fo_f, fo_a, fo_j, co_f, co_a, co_j, ao_f, ao_a, ao_j, zo_f, zo_a, zo_j, jo_f, jo_a, jo_j, al_f, al_a, al_j, fg_a, fg_j, ag_f, ag_j, jg_f, jg_a, fk_f, fk_a, fk_j, fi_a, fi_j, tI_0, tI_n0, if_true, if_false, ne_eq, not_true_eq_false, not_false_eq_true, and_self, Bool.false_eq_true, x_mIn, mInC (lo := 0) (hi := 1) 0 1 rfl rfl, k01, oc64 ok3, of64_0 ok3, og64_0 ok3, ok64_0 ok3, of64_1 ok3, og64_1 ok3, of64_2 ok3, og64_2 ok3, of64_3 ok3, og64_3 ok3, of64_4 ok3, og64_4 ok3, of64_5 ok3, og64_5 ok3, ok64_5 ok3, of64_6 ok3, og64_6 ok3, ok64_6 ok3, of64_7 ok3, og64_7 ok3, of64_8 ok3, og64_8 ok3, of64_9 ok3, og64_9 ok3, of64_10 ok3, og64_10 ok3, of64_11 ok3, og64_11 ok3, of64_12 ok3, og64_12 ok3, of64_13 ok3, og64_13 ok3, ok64_13 ok3, of64_14 ok3, og64_14 ok3, of64_15 ok3, og64_15 ok3, ok64_15 ok3, of64_16 ok3, og64_16 ok3, of64_17 ok3, og64_17 ok3, of64_18 ok3, og64_18 ok3, of64_19 ok3, og64_19 ok3, of64_20 ok3, og64_20 ok3, of64_21 ok3, og64_21 ok3, ok64_21 ok3, of64_22 ok3, og64_22 ok3, of64_23 ok3, og64_23 ok3, ok64_23 ok3, of64_24 ok3, og64_24 ok3, ok64_24 ok3, of64_25 ok3, og64_25 ok3, ok64_25 ok3, of64_26 ok3, og64_26 ok3, ok64_26 ok3, of64_27 ok3, og64_27 ok3, ok64_27 ok3, of64_28 ok3, og64_28 ok3, of64_29 ok3, og64_29 ok3, of64_30 ok3, og64_30 ok3, of64_31 ok3, og64_31 ok3, of64_32 ok3, og64_32 ok3, of64_33 ok3, og64_33 ok3, of64_34 ok3, og64_34 ok3, of64_35 ok3, og64_35 ok3, ok64_35 ok3, of64_36 ok3, og64_36 ok3, ok64_36 ok3, oa88 ok3, ol88 ok3, bq2, cq2, hk3, e90, ← hW5, oc64 ok5, of64_0 ok5, og64_0 ok5, ok64_0 ok5, of64_1 ok5, og64_1 ok5, of64_2 ok5, og64_2 ok5, of64_3 ok5, og64_3 ok5, of64_4 ok5, og64_4 ok5, of64_5 ok5, og64_5 ok5, ok64_5 ok5, of64_6 ok5, og64_6 ok5, ok64_6 ok5, of64_7 ok5, og64_7 ok5, of64_8 ok5, og64_8 ok5, of64_9 ok5, og64_9 ok5, of64_10 ok5, og64_10 ok5, of64_11 ok5, og64_11 ok5, of64_12 ok5, og64_12 ok5, of64_13 ok5, og64_13 ok5, ok64_13 ok5, of64_14 ok5, og64_14 ok5, of64_15 ok5, og64_15 ok5, ok64_15 ok5, of64_16 ok5, og64_16 ok5, of64_17 ok5, og64_17 ok5, of64_18 ok5, og64_18 ok5, of64_19 ok5, og64_19 ok5, of64_20 ok5, og64_20 ok5, of64_21 ok5, og64_21 ok5, ok64_21 ok5, of64_22 ok5, og64_22 ok5, of64_23 ok5, og64_23 ok5, ok64_23 ok5, of64_24 ok5, og64_24 ok5, ok64_24 ok5, of64_25 ok5, og64_25 ok5, ok64_25 ok5, of64_26 ok5, og64_26 ok5, ok64_26 ok5, of64_27 ok5, og64_27 ok5, ok64_27 ok5, of64_28 ok5, og64_28 ok5, of64_29 ok5, og64_29 ok5, of64_30 ok5, og64_30 ok5, of64_31 ok5, og64_31 ok5, of64_32 ok5, og64_32 ok5, of64_33 ok5, og64_33 ok5, of64_34 ok5, og64_34 ok5, of64_35 ok5, og64_35 ok5, ok64_35 ok5, of64_36 ok5, og64_36 ok5, ok64_36 ok5, c6]
    refine ⟨.int 1, w3, W6, eT, eM, ?_⟩
    have k87 : aget W6 87 = aget w 87 := by
      rw [b87, a5]
      exact a3 87 (by decide) (by decide) (by decide) (by decide) (by decide) (by decide) (by decide) (by decide) (by decide) (by decide)
    have w87 : aget W5 87 = aget w 87 := by rw [← b87]; exact k87
    have A6 : ∀ c, ¬ c = 87 → (∀ r ∈ rowsL, ¬ c = r.1) → aget W6 c = aget w3 c := fun c z1 z2 => (a6 c z1 z2).trans (a5 c)
    have F6 : ∀ f k, ¬ (64 = f ∧ 35 = k) → ¬ (64 = f ∧ 36 = k) → (∀ r ∈ sclL, ¬ (64 = f ∧ r.1 = k)) → fI W6 f k = fI w3 f k := fun f k z1 z2 z3 => (f6 f k z1 z3).trans (f5 f k z1 z2)
    have famA : ∀ i, i < 8 → aget W6 2 i = aget w 52 i ∧ aget W6 3 i = aget w 53 i ∧ aget W6 4 i = aget w 54 i ∧ aget W6 5 i = aget w 55 i := fun i hi => by
      obtain ⟨q1, q2, q3, q4⟩ := fcp_i (G := 51) (ok_f1 h0) hi
      rw [A6 2 (by decide) (by decide), A6 3 (by decide) (by decide), A6 4 (by decide) (by decide), A6 5 (by decide) (by decide), o3 2 (by decide) (by decide) (by decide), o3 3 (by decide) (by decide) (by decide), o3 4 (by decide) (by decide) (by decide), o3 5 (by decide) (by decide) (by decide), tcp_o (by decide) (by decide) (by decide), tcp_o (by decide) (by decide) (by decide), tcp_o (by decide) (by decide) (by decide), tcp_o (by decide) (by decide) (by decide)]
      exact ⟨q1, q2, q3, q4⟩
    have tskA : ∀ i, i < 6 → aget W6 20 i = aget w 57 i ∧ aget W6 21 i = aget w 58 i ∧ aget W6 22 i = aget w 59 i := fun i hi => by
      obtain ⟨q1, q2, q3⟩ := tcp_i (G := 56) (ok_tsk ok1 (T := 19) (by decide)) hi
      rw [A6 20 (by decide) (by decide), A6 21 (by decide) (by decide), A6 22 (by decide) (by decide), o3 20 (by decide) (by decide) (by decide), o3 21 (by decide) (by decide) (by decide), o3 22 (by decide) (by decide) (by decide)]
      rw [fcp_o (c := 56 + 1) (by decide) (by decide) (by decide) (by decide)] at q1
      rw [fcp_o (c := 56 + 2) (by decide) (by decide) (by decide) (by decide)] at q2
      rw [fcp_o (c := 56 + 3) (by decide) (by decide) (by decide) (by decide)] at q3
      exact ⟨q1, q2, q3⟩
    have sgtA : ∀ i, i < 8 → aget W6 24 i = aget w 61 i ∧ aget W6 25 i = aget w 62 i ∧ aget W6 26 i = aget w 63 i := fun i hi => by
      obtain ⟨q1, q2, q3⟩ := n3 i hi
      rw [g2 (60 + 1) (by decide) (by decide) (by decide) (by decide) (by decide) (by decide) (by decide)] at q1
      rw [g2 (60 + 2) (by decide) (by decide) (by decide) (by decide) (by decide) (by decide) (by decide)] at q2
      rw [g2 (60 + 3) (by decide) (by decide) (by decide) (by decide) (by decide) (by decide) (by decide)] at q3
      rw [A6 24 (by decide) (by decide), A6 25 (by decide) (by decide), A6 26 (by decide) (by decide)]
      exact ⟨q1, q2, q3⟩
    obtain ⟨fc4, fc5, fc6⟩ := fcp_f (w := w) (G := 51) (ok_f1 h0)
    have F3 : ∀ k, fI W6 1 k = fI (fcp w 1 51) 1 k := fun k => by
      rw [F6 1 k (by omega) (by omega) (fun r hr z => absurd z.1 (by decide)), f3 1 k (by omega), tcp_f]
    have S3 : fI W6 23 3 = fI w 60 3 := by
      rw [F6 23 3 (by decide) (by decide) (by decide), l3, tcp_f, fcp_fo (by decide)]
    have N : ∀ r ∈ rowsL, ∀ j, j < r.2.2 → aget W6 r.1 j = aget w 87 (90 + r.2.1 + j) := fun r hr j hj => by
      rw [b6 r hr j hj, w87]
    have NS : ∀ r ∈ sclL, fI W6 64 r.1 = aget w 87 (90 + r.2) := fun r hr => by
      rw [s6 r hr, w87]
    have U : ∀ c, ¬ c = 87 → (∀ r ∈ rowsL, ¬ c = r.1) → ¬ c = 2 → ¬ c = 3 → ¬ c = 4 → ¬ c = 5 → ¬ c = 20 → ¬ c = 21 → ¬ c = 22 → ¬ c = 24 → ¬ c = 25 → ¬ c = 26 → aget W6 c = aget w c := fun c y1 y2 z1 z2 z3 z4 z5 z6 z7 z8 z9 z10 => by
      rw [A6 c y1 y2]; exact a3 c z1 z2 z3 z4 z5 z6 z7 z8 z9 z10
    have V : ∀ f k, ¬ (64 = f ∧ 35 = k) → ¬ (64 = f ∧ 36 = k) → (∀ r ∈ sclL, ¬ (64 = f ∧ r.1 = k)) → ¬ (23 = f ∧ 3 = k) → ¬ 1 = f → fI W6 f k = fI w f k := fun f k z1 z2 z3 z4 z5 => (F6 f k z1 z2 z3).trans (f3' f k z4 z5)
    refine ⟨ok6, ⟨fun i hi => ?_, ?_, ?_⟩, ⟨fun i hi => ?_, ?_, ?_, ?_⟩, fun i hi => ?_, fun i hi => ?_, ⟨fun i hi => ?_, ?_⟩, ⟨fun i hi => ?_, ?_⟩, ⟨fun i hi => ?_, ?_, ?_⟩, ?_, ?_⟩
    · obtain ⟨q1, q2, q3, q4⟩ := famA i hi
      show rng (aget W6 2 i) 99 ∧ rng (aget W6 3 i) 99 ∧ rng (aget W6 4 i) 1023 ∧ rng (aget W6 5 i) 255
      rw [q1, q2, q3, q4]
      exact z3.1 i hi
    · rw [F3, fc4]; exact z3.2.1
    · rw [F3, F3, fc4, fc5]; exact z3.2.2
    · obtain ⟨q1, q2, q3, q4⟩ := famA i hi
      obtain ⟨v1, v2, v3, v4, -⟩ := y1 i hi
      rw [q1, q2, q3, q4]
      exact ⟨v1.trans (N (65, 4, 8) (by decide) i hi).symm, v2.trans (N (66, 12, 8) (by decide) i hi).symm, v3.trans (N (67, 20, 8) (by decide) i hi).symm, v4.trans (N (68, 28, 8) (by decide) i hi).symm⟩
    · rw [F3, fc4]; exact y3.trans (NS (0, 0) (by decide)).symm
    · rw [F3, fc5]; exact y4.trans (NS (5, 1) (by decide)).symm
    · rw [F3, fc6]; exact y5.trans (NS (6, 2) (by decide)).symm
    · obtain ⟨q1, q2, q3⟩ := tskA i hi
      show rng (aget W6 20 i) 7 ∧ rng (aget W6 21 i) 99 ∧ rng (aget W6 22 i) 99
      rw [q1, q2, q3]
      exact z4 i hi
    · obtain ⟨q1, q2, q3⟩ := tskA i hi
      obtain ⟨v1, v2, v3⟩ := y2 i hi
      rw [q1, q2, q3]
      exact ⟨v1.trans (N (69, 36, 6) (by decide) i hi).symm, v2.trans (N (70, 42, 6) (by decide) i hi).symm, v3.trans (N (71, 48, 6) (by decide) i hi).symm⟩
    · obtain ⟨q1, q2, q3⟩ := sgtA i hi
      show rng (aget W6 24 i) 60 ∧ rng (aget W6 25 i) 7 ∧ rng (aget W6 26 i) 1
      rw [q1, q2, q3]
      exact z5.1 i hi
    · rw [S3]; exact z5.2
    · obtain ⟨q1, q2, q3⟩ := sgtA i hi
      obtain ⟨-, -, -, -, v1, v2, v3⟩ := y1 i hi
      rw [q1, q2, q3]
      exact ⟨v1.trans (N (72, 54, 8) (by decide) i hi).symm, v2.trans (N (73, 62, 8) (by decide) i hi).symm, v3.trans (N (74, 70, 8) (by decide) i hi).symm⟩
    · rw [S3]; exact y6.trans (NS (13, 3) (by decide)).symm
    · rw [U 12 (by decide) (by decide) (by decide) (by decide) (by decide) (by decide) (by decide) (by decide) (by decide) (by decide) (by decide) (by decide), U 75 (by decide) (by decide) (by decide) (by decide) (by decide) (by decide) (by decide) (by decide) (by decide) (by decide) (by decide) (by decide)]
      exact h7.1 i hi
    · rw [V 11 1 (by decide) (by decide) (by decide) (by decide) (by decide), V 64 15 (by decide) (by decide) (by decide) (by decide) (by decide)]
      exact h7.2.1
    · rw [V 11 1 (by decide) (by decide) (by decide) (by decide) (by decide)]
      exact h7.2.2
    · refine simI_same h8 (fun a ha => ?_) (fun f k hfk => ?_)
      · by_cases e : a = 87
        · subst e; exact k87
        · have m := (by decide : ∀ a ∈ [87, 88, 36 + 2, 36 + 3, 36 + 4, 36 + 5, 36 + 7, 36 + 8, 36 + 9, 36 + 11, 36 + 12, 36 + 13], (∀ r ∈ rowsL, ¬ a = r.1) ∧ ¬ a = 2 ∧ ¬ a = 3 ∧ ¬ a = 4 ∧ ¬ a = 5 ∧ ¬ a = 20 ∧ ¬ a = 21 ∧ ¬ a = 22 ∧ ¬ a = 24 ∧ ¬ a = 25 ∧ ¬ a = 26 ∨ a = 87) a ha
          rcases m with m | m
          · exact U a e m.1 m.2.1 m.2.2.1 m.2.2.2.1 m.2.2.2.2.1 m.2.2.2.2.2.1 m.2.2.2.2.2.2.1 m.2.2.2.2.2.2.2.1 m.2.2.2.2.2.2.2.2.1 m.2.2.2.2.2.2.2.2.2.1 m.2.2.2.2.2.2.2.2.2.2
          · exact absurd m e
      · have m := (by decide : ∀ r ∈ [(36, 3), (36 + 1, 4), (36 + 1, 5), (36 + 1, 6), (36 + 10, 3)], ¬ (64 = r.1 ∧ 35 = r.2) ∧ ¬ (64 = r.1 ∧ 36 = r.2) ∧ (∀ s ∈ sclL, ¬ (64 = r.1 ∧ s.1 = r.2)) ∧ ¬ (23 = r.1 ∧ 3 = r.2) ∧ ¬ 1 = r.1) (f, k) hfk
        exact V f k m.1 m.2.1 m.2.2.1 m.2.2.2.1 m.2.2.2.2
    · refine simI_same h9 (fun a ha => ?_) (fun f k hfk => ?_)
      · by_cases e : a = 87
        · subst e; exact k87
        · have m := (by decide : ∀ a ∈ [87, 88, 50 + 2, 50 + 3, 50 + 4, 50 + 5, 50 + 7, 50 + 8, 50 + 9, 50 + 11, 50 + 12, 50 + 13], (∀ r ∈ rowsL, ¬ a = r.1) ∧ ¬ a = 2 ∧ ¬ a = 3 ∧ ¬ a = 4 ∧ ¬ a = 5 ∧ ¬ a = 20 ∧ ¬ a = 21 ∧ ¬ a = 22 ∧ ¬ a = 24 ∧ ¬ a = 25 ∧ ¬ a = 26 ∨ a = 87) a ha
          rcases m with m | m
          · exact U a e m.1 m.2.1 m.2.2.1 m.2.2.2.1 m.2.2.2.2.1 m.2.2.2.2.2.1 m.2.2.2.2.2.2.1 m.2.2.2.2.2.2.2.1 m.2.2.2.2.2.2.2.2.1 m.2.2.2.2.2.2.2.2.2.1 m.2.2.2.2.2.2.2.2.2.2
          · exact absurd m e
      · have m := (by decide : ∀ r ∈ [(50, 3), (50 + 1, 4), (50 + 1, 5), (50 + 1, 6), (50 + 10, 3)], ¬ (64 = r.1 ∧ 35 = r.2) ∧ ¬ (64 = r.1 ∧ 36 = r.2) ∧ (∀ s ∈ sclL, ¬ (64 = r.1 ∧ s.1 = r.2)) ∧ ¬ (23 = r.1 ∧ 3 = r.2) ∧ ¬ 1 = r.1) (f, k) hfk
        exact V f k m.1 m.2.1 m.2.2.1 m.2.2.2.1 m.2.2.2.2
theorem i01 {a : Int32} (h : 0 ≤ a ∧ a ≤ 1) : a = 0 ∨ a = 1 := by
  obtain ⟨m, hm, rfl⟩ := nat_of (n := 1) rfl h
  rcases Nat.le_one_iff_eq_zero_or_eq_one.mp hm with rfl | rfl
  · exact Or.inl rfl
  · exact Or.inr rfl
theorem op_image {X : Scr} {w : AW} (h : SI w) {a : Int32} : both X 86 160 [.ref 0, .int a, uns] [.ref 64, .int a] w := by
  by_cases ha : 0 ≤ a ∧ a ≤ 1
  · rcases i01 ha with rfl | rfl
    · exact op_image0 h
    · exact op_image1 h
  · refine ⟨.int (-2), w, w, ?_, ?_, h⟩
    · simp only [z86_0, z86_1, z86_2, z86_3, z86_6, z86_9, z86_11, z86_12, z86_13, z86_14, z86_17, z86_18, z86_19, z86_22, z86_23, z86_26, z86_29, z86_30, z86_33, z86_34, z86_37, z86_40, z86_41, z86_44, z86_45, z86_48, z86_51, z86_52, z86_53, z86_56, z86_57, Option.bind_some, Option.toList_some, Option.toList_none, List.cons_append, List.nil_append, sc_i, sc_r, sc_l, sc_u, sc_s, List.length_nil, List.length_cons, Nat.reduceAdd, Nat.reduceLeDiff, Nat.zero_le, le4_0, le4_1, le4_2, le4_3, rz0, rz1, rzt, eq_self, x_isIn, ha, tI_0, tI_n0, if_true, if_false, ne_eq, not_true_eq_false, not_false_eq_true, and_self, Bool.false_eq_true]
    · simp only [z160_0, z160_1, z160_2, z160_3, z160_4, z160_7, z160_10, z160_12, z160_13, z160_14, z160_16, z160_17, z160_18, z160_21, z160_22, z160_23, z160_26, z160_27, z160_30, z160_31, z160_34, z160_35, z160_36, z160_37, z160_38, Option.bind_some, Option.toList_some, Option.toList_none, List.cons_append, List.nil_append, sc_i, sc_r, sc_l, sc_u, sc_s, List.length_nil, List.length_cons, Nat.reduceAdd, Nat.reduceLeDiff, Nat.zero_le, le4_0, le4_1, le4_2, le4_3, rz0, rz1, rzt, eq_self, x_mIn, mInC (lo := 0) (hi := 1) 0 1 rfl rfl, ha, tI_0, tI_n0, if_true, if_false, ne_eq, not_true_eq_false, not_false_eq_true, and_self, Bool.false_eq_true]
theorem op_restore {X : Scr} {w : AW} (h : SI w) {a : Int32} : both X 90 164 [.ref 0, .int a, uns] [.ref 64, .int a] w := by
  by_cases ha : 0 ≤ a ∧ a ≤ 1
  · rcases i01 ha with rfl | rfl
    · exact op_restore0 h
    · exact op_restore1 h
  · refine ⟨.int (-2), w, w, ?_, ?_, h⟩
    · simp only [z90_0, z90_1, z90_2, z90_3, z90_6, z90_9, z90_11, z90_12, z90_13, z90_14, z90_17, z90_18, z90_19, z90_22, z90_25, z90_27, z90_28, z90_29, z90_32, z90_33, z90_36, z90_39, z90_40, z90_43, z90_44, z90_47, z90_50, z90_51, z90_54, z90_55, z90_58, z90_61, z90_62, Option.bind_some, Option.toList_some, Option.toList_none, List.cons_append, List.nil_append, sc_i, sc_r, sc_l, sc_u, sc_s, List.length_nil, List.length_cons, Nat.reduceAdd, Nat.reduceLeDiff, Nat.zero_le, le4_0, le4_1, le4_2, le4_3, rz0, rz1, rzt, eq_self, x_isIn, ha, tI_0, tI_n0, if_true, if_false, ne_eq, not_true_eq_false, not_false_eq_true, and_self, Bool.false_eq_true]
    · simp only [z164_0, z164_1, z164_2, z164_3, z164_4, z164_7, z164_10, z164_12, z164_13, z164_14, z164_17, z164_18, z164_19, z164_22, z164_24, z164_25, z164_26, z164_28, z164_29, z164_30, z164_33, z164_34, z164_35, z164_38, z164_39, z164_42, z164_43, Option.bind_some, Option.toList_some, Option.toList_none, List.cons_append, List.nil_append, sc_i, sc_r, sc_l, sc_u, sc_s, List.length_nil, List.length_cons, Nat.reduceAdd, Nat.reduceLeDiff, Nat.zero_le, le4_0, le4_1, le4_2, le4_3, rz0, rz1, rzt, eq_self, x_mIn, mInC (lo := 0) (hi := 1) 0 1 rfl rfl, ha, tI_0, tI_n0, if_true, if_false, ne_eq, not_true_eq_false, not_false_eq_true, and_self, Bool.false_eq_true]
