/-! image -/
theorem op_image0 {X : Scr} {w : AW} (h : SI w) : both X 86 160 [.ref 0, .int 0, uns] [.ref 64, .int 0] w := by
  obtain ⟨h0, h1, h2, h3, h4, h5, h6, h7, h8, h9⟩ := id h
  have c1 := x_fcp (X := X) (ok_fam h0 (F := 37) (by decide)) (ok_f1 h0) (by decide)
  have ok1 : OK (fcp w 37 1) := fcp_ok h0 (by decide)
  have c2 := x_tcp (X := X) (ok_tsk ok1 (T := 42) (by decide)) (ok_tsk ok1 (T := 19) (by decide)) (by decide)
  have ok2 : OK (tcp (fcp w 37 1) 42 19) := tcp_ok ok1
  have g2 : ∀ c, ¬ c = 38 → ¬ c = 39 → ¬ c = 40 → ¬ c = 41 → ¬ c = 43 → ¬ c = 44 → ¬ c = 45 → aget (tcp (fcp w 37 1) 42 19) c = aget w c := fun c z1 z2 z3 z4 z5 z6 z7 => (tcp_o z5 z6 z7).trans (fcp_o z1 z2 z3 z4)
  obtain ⟨w3, c3, ok3', n3, o3, l3, f3⟩ := x_scp (X := X) (w := tcp (fcp w 37 1) 42 19) (S := 46) (Q := 23) (by decide) (ok_sgt ok2 (by decide)) (ok_sgt ok2 (by decide)) (fun j hj => by rw [g2 (23 + 3) (by decide) (by decide) (by decide) (by decide) (by decide) (by decide) (by decide)]; exact (h5.1 j hj).2.2) (fun w1 x o1 => ok_f o1 (by decide))
  have ok3 := ok3' ok2
  have k01 : (0 : Int32) ≤ 0 ∧ (0 : Int32) ≤ 1 := by decide
  have ok4 : OK (fset w3 36 3 (.int 1)) := ok_f ok3 (by decide)
  have eT : Z X 86 0 [.ref 0, .int 0, uns] [] w = some (some (.int 1), fset w3 36 3 (.int 1)) := by
    have e1 : ¬ (1 : Int32) = 0 := by decide
    simp only [z86_0, z86_1, z86_2, z86_3, z86_6, z86_9, z86_11, z86_12, z86_13, z86_14, z86_17, z86_18, z86_19, z86_22, z86_23, z86_26, z86_29, z86_30, z86_33, z86_34, z86_37, z86_40, z86_41, z86_44, z86_45, z86_48, z86_51, z86_52, z86_53, z86_56, z86_57, z87_0, z87_1, z87_4, z87_5, z87_8, z87_11, z87_12, z87_15, Option.bind_some, Option.toList_some, Option.toList_none, List.cons_append, List.nil_append, sc_i, sc_r, sc_l, sc_u, sc_s, List.length_nil, List.length_cons, Nat.reduceAdd, Nat.reduceLeDiff, Nat.zero_le, le4_0, le4_1, le4_2, le4_3, rz0, rz1, rzt, eq_self, tI_0, tI_n0, if_true, if_false, ne_eq, not_true_eq_false, not_false_eq_true, and_self, Bool.false_eq_true, e1, x_isIn, k01, oc0 h0, of0_0 h0, og0_0 h0, of0_1 h0, og0_1 h0, of0_2 h0, og0_2 h0, of0_3 h0, og0_3 h0, of0_4 h0, og0_4 h0, of0_5 h0, og0_5 h0, of0_6 h0, og0_6 h0, of0_7 h0, og0_7 h0, of0_8 h0, og0_8 h0, of0_9 h0, og0_9 h0, of0_10 h0, og0_10 h0, oc36 h0, of36_0 h0, og36_0 h0, of36_1 h0, og36_1 h0, of36_2 h0, og36_2 h0, of36_3 h0, og36_3 h0, ok36_3 h0, oc37 h0, of37_0 h0, og37_0 h0, of37_1 h0, og37_1 h0, of37_2 h0, og37_2 h0, of37_3 h0, og37_3 h0, of37_4 h0, og37_4 h0, ok37_4 h0, of37_5 h0, og37_5 h0, ok37_5 h0, of37_6 h0, og37_6 h0, ok37_6 h0, c1, oc0 ok1, of0_0 ok1, og0_0 ok1, of0_1 ok1, og0_1 ok1, of0_2 ok1, og0_2 ok1, of0_3 ok1, og0_3 ok1, of0_4 ok1, og0_4 ok1, of0_5 ok1, og0_5 ok1, of0_6 ok1, og0_6 ok1, of0_7 ok1, og0_7 ok1, of0_8 ok1, og0_8 ok1, of0_9 ok1, og0_9 ok1, of0_10 ok1, og0_10 ok1, oc36 ok1, of36_0 ok1, og36_0 ok1, of36_1 ok1, og36_1 ok1, of36_2 ok1, og36_2 ok1, of36_3 ok1, og36_3 ok1, ok36_3 ok1, oc42 ok1, of42_0 ok1, og42_0 ok1, of42_1 ok1, og42_1 ok1, of42_2 ok1, og42_2 ok1, of42_3 ok1, og42_3 ok1, ok42_3 ok1, of42_4 ok1, og42_4 ok1, ok42_4 ok1, c2, oc0 ok2, of0_0 ok2, og0_0 ok2, of0_1 ok2, og0_1 ok2, of0_2 ok2, og0_2 ok2, of0_3 ok2, og0_3 ok2, of0_4 ok2, og0_4 ok2, of0_5 ok2, og0_5 ok2, of0_6 ok2, og0_6 ok2, of0_7 ok2, og0_7 ok2, of0_8 ok2, og0_8 ok2, of0_9 ok2, og0_9 ok2, of0_10 ok2, og0_10 ok2, oc36 ok2, of36_0 ok2, og36_0 ok2, of36_1 ok2, og36_1 ok2, of36_2 ok2, og36_2 ok2, of36_3 ok2, og36_3 ok2, ok36_3 ok2, oc46 ok2, of46_0 ok2, og46_0 ok2, of46_1 ok2, og46_1 ok2, of46_2 ok2, og46_2 ok2, of46_3 ok2, og46_3 ok2, ok46_3 ok2, c3, oc0 ok3, of0_0 ok3, og0_0 ok3, of0_1 ok3, og0_1 ok3, of0_2 ok3, og0_2 ok3, of0_3 ok3, og0_3 ok3, of0_4 ok3, og0_4 ok3, of0_5 ok3, og0_5 ok3, of0_6 ok3, og0_6 ok3, of0_7 ok3, og0_7 ok3, of0_8 ok3, og0_8 ok3, of0_9 ok3, og0_9 ok3, of0_10 ok3, og0_10 ok3, oc36 ok3, of36_0 ok3, og36_0 ok3, of36_1 ok3, og36_1 ok3, of36_2 ok3, og36_2 ok3, of36_3 ok3, og36_3 ok3, ok36_3 ok3]
  have a4 : ∀ c, ¬ c = 38 → ¬ c = 39 → ¬ c = 40 → ¬ c = 41 → ¬ c = 43 → ¬ c = 44 → ¬ c = 45 → ¬ c = 47 → ¬ c = 48 → ¬ c = 49 → aget (fset w3 36 3 (.int 1)) c = aget w c := fun c z1 z2 z3 z4 z5 z6 z7 z8 z9 z10 => by
    rw [ag_f, o3 c z8 z9 z10]; exact g2 c z1 z2 z3 z4 z5 z6 z7
  have f4 : ∀ f k, ¬ (36 = f ∧ 3 = k) → ¬ (46 = f ∧ 3 = k) → ¬ 37 = f → fI (fset w3 36 3 (.int 1)) f k = fI w f k := fun f k z1 z2 z3 => by
    rw [fi_n z1, f3 f k z2, tcp_f, fcp_fo (Or.inl z3)]
  obtain ⟨W5, hW5⟩ : ∃ x, x = fset (fset (fset w3 36 3 (.int 1)) 64 35 (.int (nI 0))) 64 36 (.int 1) := ⟨_, rfl⟩
  have ok5 : OK W5 := by rw [hW5]; exact ok_f (ok_f ok4 (by decide)) (by decide)
  have k5 : fI W5 64 35 = nI 0 := by rw [hW5, fi_n (by decide), fi_s (ok64_35 ok4)]
  have i5 : fI W5 64 36 = 1 := by rw [hW5, fi_s (by rw [fk_f]; exact ok64_36 ok4)]
  have a5 : ∀ c, aget W5 c = aget (fset w3 36 3 (.int 1)) c := fun c => by rw [hW5, ag_f, ag_f]
  have f5 : ∀ f k, ¬ (64 = f ∧ 35 = k) → ¬ (64 = f ∧ 36 = k) → fI W5 f k = fI (fset w3 36 3 (.int 1)) f k := fun f k z1 z2 => by rw [hW5, fi_n z2, fi_n z1]
  obtain ⟨w6a, W6, c6, ps, pr⟩ := x_passAll (X := X) ok5 (by decide) k5
  obtain ⟨ok6, a6, f6, n6, s6, t6⟩ := pa_w ps pr (by rw [i5]; decide)
  have bq2 : inB 0 2 = true := by decide
  have cq2 : (0 : Int32).toNatClampNeg = 0 := rfl
  have e90 : (90 : Int32) * 0 = nI 0 := rfl
  refine ⟨.int 1, fset w3 36 3 (.int 1), aset W6 88 (upd (aget W6 88) 0 ((1 : Int32) &&& 1)), eT, ?_, ?_⟩
  · simp only [z160_0, z160_1, z160_2, z160_3, z160_4, z160_7, z160_10, z160_12, z160_13, z160_14, z160_16, z160_17, z160_18, z160_21, z160_22, z160_23, z160_26, z160_27, z160_30, z160_31, z160_34, z160_35, z160_36, z160_37, z160_38, Option.bind_some, Option.toList_some, Option.toList_none, List.cons_append, List.nil_append, sc_i, sc_r, sc_l, sc_u, sc_s, List.length_nil, List.length_cons, Nat.reduceAdd, Nat.reduceLeDiff, Nat.zero_le, le4_0, le4_1, le4_2, le4_3, rz0, rz1, rzt, eq_self, fo_f, fo_a, fo_j, co_f, co_a, co_j, ao_f, ao_a, ao_j, zo_f, zo_a, zo_j, jo_f, jo_a, jo_j, al_f, al_a, al_j, fg_a, fg_j, ag_f, ag_j, jg_f, jg_a, fk_f, fk_a, fk_j, fi_a, fi_j, tI_0, tI_n0, if_true, if_false, ne_eq, not_true_eq_false, not_false_eq_true, and_self, Bool.false_eq_true, x_mIn, mInC (lo := 0) (hi := 1) 0 1 rfl rfl, k01, oc64 ok4, of64_0 ok4, og64_0 ok4, ok64_0 ok4, of64_1 ok4, og64_1 ok4, of64_2 ok4, og64_2 ok4, of64_3 ok4, og64_3 ok4, of64_4 ok4, og64_4 ok4, of64_5 ok4, og64_5 ok4, ok64_5 ok4, of64_6 ok4, og64_6 ok4, ok64_6 ok4, of64_7 ok4, og64_7 ok4, of64_8 ok4, og64_8 ok4, of64_9 ok4, og64_9 ok4, of64_10 ok4, og64_10 ok4, of64_11 ok4, og64_11 ok4, of64_12 ok4, og64_12 ok4, of64_13 ok4, og64_13 ok4, ok64_13 ok4, of64_14 ok4, og64_14 ok4, of64_15 ok4, og64_15 ok4, ok64_15 ok4, of64_16 ok4, og64_16 ok4, of64_17 ok4, og64_17 ok4, of64_18 ok4, og64_18 ok4, of64_19 ok4, og64_19 ok4, of64_20 ok4, og64_20 ok4, of64_21 ok4, og64_21 ok4, ok64_21 ok4, of64_22 ok4, og64_22 ok4, of64_23 ok4, og64_23 ok4, ok64_23 ok4, of64_24 ok4, og64_24 ok4, ok64_24 ok4, of64_25 ok4, og64_25 ok4, ok64_25 ok4, of64_26 ok4, og64_26 ok4, ok64_26 ok4, of64_27 ok4, og64_27 ok4, ok64_27 ok4, of64_28 ok4, og64_28 ok4, of64_29 ok4, og64_29 ok4, of64_30 ok4, og64_30 ok4, of64_31 ok4, og64_31 ok4, of64_32 ok4, og64_32 ok4, of64_33 ok4, og64_33 ok4, of64_34 ok4, og64_34 ok4, of64_35 ok4, og64_35 ok4, ok64_35 ok4, of64_36 ok4, og64_36 ok4, ok64_36 ok4, e90, ← hW5, oc64 ok5, of64_0 ok5, og64_0 ok5, ok64_0 ok5, of64_1 ok5, og64_1 ok5, of64_2 ok5, og64_2 ok5, of64_3 ok5, og64_3 ok5, of64_4 ok5, og64_4 ok5, of64_5 ok5, og64_5 ok5, ok64_5 ok5, of64_6 ok5, og64_6 ok5, ok64_6 ok5, of64_7 ok5, og64_7 ok5, of64_8 ok5, og64_8 ok5, of64_9 ok5, og64_9 ok5, of64_10 ok5, og64_10 ok5, of64_11 ok5, og64_11 ok5, of64_12 ok5, og64_12 ok5, of64_13 ok5, og64_13 ok5, ok64_13 ok5, of64_14 ok5, og64_14 ok5, of64_15 ok5, og64_15 ok5, ok64_15 ok5, of64_16 ok5, og64_16 ok5, of64_17 ok5, og64_17 ok5, of64_18 ok5, og64_18 ok5, of64_19 ok5, og64_19 ok5, of64_20 ok5, og64_20 ok5, of64_21 ok5, og64_21 ok5, ok64_21 ok5, of64_22 ok5, og64_22 ok5, of64_23 ok5, og64_23 ok5, ok64_23 ok5, of64_24 ok5, og64_24 ok5, ok64_24 ok5, of64_25 ok5, og64_25 ok5, ok64_25 ok5, of64_26 ok5, og64_26 ok5, ok64_26 ok5, of64_27 ok5, og64_27 ok5, ok64_27 ok5, of64_28 ok5, og64_28 ok5, of64_29 ok5, og64_29 ok5, of64_30 ok5, og64_30 ok5, of64_31 ok5, og64_31 ok5, of64_32 ok5, og64_32 ok5, of64_33 ok5, og64_33 ok5, of64_34 ok5, og64_34 ok5, of64_35 ok5, og64_35 ok5, ok64_35 ok5, of64_36 ok5, og64_36 ok5, ok64_36 ok5, c6, oc64 ok6, of64_0 ok6, og64_0 ok6, ok64_0 ok6, of64_1 ok6, og64_1 ok6, of64_2 ok6, og64_2 ok6, of64_3 ok6, og64_3 ok6, of64_4 ok6, og64_4 ok6, of64_5 ok6, og64_5 ok6, ok64_5 ok6, of64_6 ok6, og64_6 ok6, ok64_6 ok6, of64_7 ok6, og64_7 ok6, of64_8 ok6, og64_8 ok6, of64_9 ok6, og64_9 ok6, of64_10 ok6, og64_10 ok6, of64_11 ok6, og64_11 ok6, of64_12 ok6, og64_12 ok6, of64_13 ok6, og64_13 ok6, ok64_13 ok6, of64_14 ok6, og64_14 ok6, of64_15 ok6, og64_15 ok6, ok64_15 ok6, of64_16 ok6, og64_16 ok6, of64_17 ok6, og64_17 ok6, of64_18 ok6, og64_18 ok6, of64_19 ok6, og64_19 ok6, of64_20 ok6, og64_20 ok6, of64_21 ok6, og64_21 ok6, ok64_21 ok6, of64_22 ok6, og64_22 ok6, of64_23 ok6, og64_23 ok6, ok64_23 ok6, of64_24 ok6, og64_24 ok6, ok64_24 ok6, of64_25 ok6, og64_25 ok6, ok64_25 ok6, of64_26 ok6, og64_26 ok6, ok64_26 ok6, of64_27 ok6, og64_27 ok6, ok64_27 ok6, of64_28 ok6, og64_28 ok6, of64_29 ok6, og64_29 ok6, of64_30 ok6, og64_30 ok6, of64_31 ok6, og64_31 ok6, of64_32 ok6, og64_32 ok6, of64_33 ok6, og64_33 ok6, of64_34 ok6, og64_34 ok6, of64_35 ok6, og64_35 ok6, ok64_35 ok6, of64_36 ok6, og64_36 ok6, ok64_36 ok6, oa88 ok6, ol88 ok6, bq2, cq2]
  · have A : ∀ c, ¬ c = 88 → aget (aset W6 88 (upd (aget W6 88) 0 ((1 : Int32) &&& 1))) c = aget W6 c := fun c z => ag_n (fun e => z e.symm)
    have A2 : ∀ c, ¬ c = 88 → ¬ c = 87 → ¬ c = 38 → ¬ c = 39 → ¬ c = 40 → ¬ c = 41 → ¬ c = 43 → ¬ c = 44 → ¬ c = 45 → ¬ c = 47 → ¬ c = 48 → ¬ c = 49 → aget (aset W6 88 (upd (aget W6 88) 0 ((1 : Int32) &&& 1))) c = aget w c := fun c y1 y2 z1 z2 z3 z4 z5 z6 z7 z8 z9 z10 => by
      rw [A c y1, a6 c y2, a5]; exact a4 c z1 z2 z3 z4 z5 z6 z7 z8 z9 z10
    have F2 : ∀ f k, ¬ (64 = f ∧ 35 = k) → ¬ (64 = f ∧ 36 = k) → ¬ (36 = f ∧ 3 = k) → ¬ (46 = f ∧ 3 = k) → ¬ 37 = f → fI (aset W6 88 (upd (aget W6 88) 0 ((1 : Int32) &&& 1))) f k = fI w f k := fun f k z1 z2 z3 z4 z5 => by
      rw [fi_a, f6 f k z1, f5 f k z1 z2]; exact f4 f k z3 z4 z5
    have T : ∀ t, t < 0 ∨ 0 + 78 ≤ t → aget (aset W6 88 (upd (aget W6 88) 0 ((1 : Int32) &&& 1))) 87 t = aget w 87 t := fun t ht => by
      rw [A 87 (by decide), t6 t ht, a5]; exact congrFun (a4 87 (by decide) (by decide) (by decide) (by decide) (by decide) (by decide) (by decide) (by decide) (by decide) (by decide)) t
    have E88 : ∀ t, aget (aset W6 88 (upd (aget W6 88) 0 ((1 : Int32) &&& 1))) 88 t = if t = 0 then 1 else aget w 88 t := fun t => by
      rw [ag_z (oa88 ok6), updI, show (1 : Int32) &&& 1 = 1 from rfl, a6 88 (by decide), a5, a4 88 (by decide) (by decide) (by decide) (by decide) (by decide) (by decide) (by decide) (by decide) (by decide) (by decide)]
    have Im3 : fI (aset W6 88 (upd (aget W6 88) 0 ((1 : Int32) &&& 1))) 36 3 = 1 := by
      rw [fi_a, f6 36 3 (by decide), f5 36 3 (by decide) (by decide), fi_s (ok36_3 ok3)]
    have R6 : ∀ c, ¬ c = 88 → ¬ c = 87 → aget (aset W6 88 (upd (aget W6 88) 0 ((1 : Int32) &&& 1))) c = aget w3 c := fun c z1 z2 => by
      rw [A c z1, a6 c z2, a5, ag_f]
    have famA : ∀ i, i < 8 → aget w3 38 i = aget w 2 i ∧ aget w3 39 i = aget w 3 i ∧ aget w3 40 i = aget w 4 i ∧ aget w3 41 i = aget w 5 i := fun i hi => by
      obtain ⟨q1, q2, q3, q4⟩ := fcp_i (G := 1) (ok_fam h0 (F := 37) (by decide)) hi
      rw [o3 38 (by decide) (by decide) (by decide), o3 39 (by decide) (by decide) (by decide), o3 40 (by decide) (by decide) (by decide), o3 41 (by decide) (by decide) (by decide), tcp_o (by decide) (by decide) (by decide), tcp_o (by decide) (by decide) (by decide), tcp_o (by decide) (by decide) (by decide), tcp_o (by decide) (by decide) (by decide)]
      exact ⟨q1, q2, q3, q4⟩
    have tskA : ∀ i, i < 6 → aget w3 43 i = aget w 20 i ∧ aget w3 44 i = aget w 21 i ∧ aget w3 45 i = aget w 22 i := fun i hi => by
      obtain ⟨q1, q2, q3⟩ := tcp_i (G := 19) (ok_tsk ok1 (T := 42) (by decide)) hi
      rw [o3 43 (by decide) (by decide) (by decide), o3 44 (by decide) (by decide) (by decide), o3 45 (by decide) (by decide) (by decide)]
      rw [fcp_o (c := 19 + 1) (by decide) (by decide) (by decide) (by decide)] at q1
      rw [fcp_o (c := 19 + 2) (by decide) (by decide) (by decide) (by decide)] at q2
      rw [fcp_o (c := 19 + 3) (by decide) (by decide) (by decide) (by decide)] at q3
      exact ⟨q1, q2, q3⟩
    have sgtA : ∀ i, i < 8 → aget w3 47 i = aget w 24 i ∧ aget w3 48 i = aget w 25 i ∧ aget w3 49 i = aget w 26 i := fun i hi => by
      obtain ⟨q1, q2, q3⟩ := n3 i hi
      rw [g2 (23 + 1) (by decide) (by decide) (by decide) (by decide) (by decide) (by decide) (by decide)] at q1
      rw [g2 (23 + 2) (by decide) (by decide) (by decide) (by decide) (by decide) (by decide) (by decide)] at q2
      rw [g2 (23 + 3) (by decide) (by decide) (by decide) (by decide) (by decide) (by decide) (by decide)] at q3
      exact ⟨q1, q2, q3⟩
    have F3 : ∀ k, 4 ≤ k → fI (aset W6 88 (upd (aget W6 88) 0 ((1 : Int32) &&& 1))) 37 k = fI (fcp w 37 1) 37 k := fun k hk => by
      rw [fi_a, f6 37 k (by omega), f5 37 k (by omega) (by omega), fi_n (by omega), f3 37 k (by omega), tcp_f]
    obtain ⟨fc4, fc5, fc6⟩ := fcp_f (G := 1) (ok_fam h0 (F := 37) (by decide))
    have S3 : fI (aset W6 88 (upd (aget W6 88) 0 ((1 : Int32) &&& 1))) 46 3 = fI w 23 3 := by
      rw [fi_a, f6 46 3 (by decide), f5 46 3 (by decide) (by decide), fi_n (by decide), l3, tcp_f, fcp_fo (by decide)]
    have N : ∀ r ∈ rowsL, ∀ j, j < r.2.2 → aget (aset W6 88 (upd (aget W6 88) 0 ((1 : Int32) &&& 1))) 87 (0 + r.2.1 + j) = aget w r.1 j := fun r hr j hj => by
      rw [A 87 (by decide), n6 r hr j hj, a5]
      exact congrFun (a4 r.1 ((by decide : ∀ r ∈ rowsL, ¬ r.1 = 38) r hr) ((by decide : ∀ r ∈ rowsL, ¬ r.1 = 39) r hr) ((by decide : ∀ r ∈ rowsL, ¬ r.1 = 40) r hr) ((by decide : ∀ r ∈ rowsL, ¬ r.1 = 41) r hr) ((by decide : ∀ r ∈ rowsL, ¬ r.1 = 43) r hr) ((by decide : ∀ r ∈ rowsL, ¬ r.1 = 44) r hr) ((by decide : ∀ r ∈ rowsL, ¬ r.1 = 45) r hr) ((by decide : ∀ r ∈ rowsL, ¬ r.1 = 47) r hr) ((by decide : ∀ r ∈ rowsL, ¬ r.1 = 48) r hr) ((by decide : ∀ r ∈ rowsL, ¬ r.1 = 49) r hr)) j
    have NS : ∀ r ∈ sclL, aget (aset W6 88 (upd (aget W6 88) 0 ((1 : Int32) &&& 1))) 87 (0 + r.2) = fI w 64 r.1 := fun r hr => by
      have n1 := (by decide : ∀ r ∈ sclL, ¬ r.1 = 35 ∧ ¬ r.1 = 36) r hr
      rw [A 87 (by decide), s6 r hr, f5 64 r.1 (fun z => n1.1 z.2.symm) (fun z => n1.2 z.2.symm), f4 64 r.1 (by omega) (by omega) (by decide)]
    refine SI_I h (ok_a ok6) ⟨fun a ha hn => ?_, fun r hr hn => ?_⟩ ?_ ?_
    · have m := (by decide : ∀ a ∈ relA, a ∉ exIA → ¬ a = 88 ∧ ¬ a = 87 ∧ ¬ a = 38 ∧ ¬ a = 39 ∧ ¬ a = 40 ∧ ¬ a = 41 ∧ ¬ a = 43 ∧ ¬ a = 44 ∧ ¬ a = 45 ∧ ¬ a = 47 ∧ ¬ a = 48 ∧ ¬ a = 49) a ha hn
      exact A2 a m.1 m.2.1 m.2.2.1 m.2.2.2.1 m.2.2.2.2.1 m.2.2.2.2.2.1 m.2.2.2.2.2.2.1 m.2.2.2.2.2.2.2.1 m.2.2.2.2.2.2.2.2.1 m.2.2.2.2.2.2.2.2.2.1 m.2.2.2.2.2.2.2.2.2.2.1 m.2.2.2.2.2.2.2.2.2.2.2
    · have m := (by decide : ∀ r ∈ relF, r ∉ exIF → ¬ (64 = r.1 ∧ 35 = r.2) ∧ ¬ (64 = r.1 ∧ 36 = r.2) ∧ ¬ (36 = r.1 ∧ 3 = r.2) ∧ ¬ (46 = r.1 ∧ 3 = r.2) ∧ ¬ 37 = r.1) r hr hn
      exact F2 r.1 r.2 m.1 m.2.1 m.2.2.1 m.2.2.2.1 m.2.2.2.2
    · -- the image that is written
      refine ⟨by rw [Im3, E88, if_pos rfl], by rw [Im3]; exact ⟨1, Nat.le_refl 1, rfl⟩, ⟨fun i hi => ?_, ?_, ?_⟩, fun i hi => ?_, ⟨fun i hi => ?_, ?_⟩, fun _ => ⟨fun i hi => ?_, fun i hi => ?_, ?_, ?_, ?_, ?_⟩⟩
      · rw [R6 (36 + 1 + 1) (by decide) (by decide), R6 (36 + 1 + 2) (by decide) (by decide), R6 (36 + 1 + 3) (by decide) (by decide), R6 (36 + 1 + 4) (by decide) (by decide)]
        obtain ⟨q1, q2, q3, q4⟩ := famA i hi
        rw [show 36 + 1 + 1 = 38 from rfl, show 36 + 1 + 2 = 39 from rfl, show 36 + 1 + 3 = 40 from rfl, show 36 + 1 + 4 = 41 from rfl, q1, q2, q3, q4]
        exact h1.1 i hi
      · rw [show 36 + 1 = 37 from rfl, F3 4 (by decide), fc4]; exact h1.2.1
      · rw [show 36 + 1 = 37 from rfl, F3 4 (by decide), fc4, F3 5 (by decide), fc5]; exact h1.2.2
      · rw [R6 (36 + 6 + 1) (by decide) (by decide), R6 (36 + 6 + 2) (by decide) (by decide), R6 (36 + 6 + 3) (by decide) (by decide)]
        obtain ⟨q1, q2, q3⟩ := tskA i hi
        rw [show 36 + 6 + 1 = 43 from rfl, show 36 + 6 + 2 = 44 from rfl, show 36 + 6 + 3 = 45 from rfl, q1, q2, q3]
        exact h3 i hi
      · rw [R6 (36 + 10 + 1) (by decide) (by decide), R6 (36 + 10 + 2) (by decide) (by decide), R6 (36 + 10 + 3) (by decide) (by decide)]
        obtain ⟨q1, q2, q3⟩ := sgtA i hi
        rw [show 36 + 10 + 1 = 47 from rfl, show 36 + 10 + 2 = 48 from rfl, show 36 + 10 + 3 = 49 from rfl, q1, q2, q3]
        exact h5.1 i hi
      · rw [show 36 + 10 = 46 from rfl, S3]; exact h5.2
      · obtain ⟨q1, q2, q3, q4⟩ := famA i hi
        obtain ⟨u1, u2, u3⟩ := sgtA i hi
        obtain ⟨v1, v2, v3, v4⟩ := h2.1 i hi
        obtain ⟨x1, x2, x3⟩ := h6.1 i hi
        refine ⟨?_, ?_, ?_, ?_, ?_, ?_, ?_⟩
        · exact ((congrFun (R6 38 (by decide) (by decide)) i).trans (q1.trans v1)).trans (N (65, 4, 8) (by decide) i hi).symm
        · exact ((congrFun (R6 39 (by decide) (by decide)) i).trans (q2.trans v2)).trans (N (66, 12, 8) (by decide) i hi).symm
        · exact ((congrFun (R6 40 (by decide) (by decide)) i).trans (q3.trans v3)).trans (N (67, 20, 8) (by decide) i hi).symm
        · exact ((congrFun (R6 41 (by decide) (by decide)) i).trans (q4.trans v4)).trans (N (68, 28, 8) (by decide) i hi).symm
        · exact ((congrFun (R6 47 (by decide) (by decide)) i).trans (u1.trans x1)).trans (N (72, 54, 8) (by decide) i hi).symm
        · exact ((congrFun (R6 48 (by decide) (by decide)) i).trans (u2.trans x2)).trans (N (73, 62, 8) (by decide) i hi).symm
        · exact ((congrFun (R6 49 (by decide) (by decide)) i).trans (u3.trans x3)).trans (N (74, 70, 8) (by decide) i hi).symm
      · obtain ⟨q1, q2, q3⟩ := tskA i hi
        obtain ⟨v1, v2, v3⟩ := h4 i hi
        refine ⟨?_, ?_, ?_⟩
        · exact ((congrFun (R6 43 (by decide) (by decide)) i).trans (q1.trans v1)).trans (N (69, 36, 6) (by decide) i hi).symm
        · exact ((congrFun (R6 44 (by decide) (by decide)) i).trans (q2.trans v2)).trans (N (70, 42, 6) (by decide) i hi).symm
        · exact ((congrFun (R6 45 (by decide) (by decide)) i).trans (q3.trans v3)).trans (N (71, 48, 6) (by decide) i hi).symm
      · exact ((F3 4 (by decide)).trans (fc4.trans h2.2.1)).trans (NS (0, 0) (by decide)).symm
      · exact ((F3 5 (by decide)).trans (fc5.trans h2.2.2.1)).trans (NS (5, 1) (by decide)).symm
      · exact ((F3 6 (by decide)).trans (fc6.trans h2.2.2.2)).trans (NS (6, 2) (by decide)).symm
      · exact (S3.trans h6.2).trans (NS (13, 3) (by decide)).symm
    · -- the other image
      have E : ∀ a, a ∈ [50 + 2, 50 + 3, 50 + 4, 50 + 5, 50 + 7, 50 + 8, 50 + 9, 50 + 11, 50 + 12, 50 + 13] → aget (aset W6 88 (upd (aget W6 88) 0 ((1 : Int32) &&& 1))) a = aget w a := fun a ha => by
        have m := (by decide : ∀ a ∈ [50 + 2, 50 + 3, 50 + 4, 50 + 5, 50 + 7, 50 + 8, 50 + 9, 50 + 11, 50 + 12, 50 + 13], ¬ a = 88 ∧ ¬ a = 87 ∧ ¬ a = 38 ∧ ¬ a = 39 ∧ ¬ a = 40 ∧ ¬ a = 41 ∧ ¬ a = 43 ∧ ¬ a = 44 ∧ ¬ a = 45 ∧ ¬ a = 47 ∧ ¬ a = 48 ∧ ¬ a = 49) a ha
        exact A2 a m.1 m.2.1 m.2.2.1 m.2.2.2.1 m.2.2.2.2.1 m.2.2.2.2.2.1 m.2.2.2.2.2.2.1 m.2.2.2.2.2.2.2.1 m.2.2.2.2.2.2.2.2.1 m.2.2.2.2.2.2.2.2.2.1 m.2.2.2.2.2.2.2.2.2.2.1 m.2.2.2.2.2.2.2.2.2.2.2
      obtain ⟨z1, z2, z3, z4, z5, z6⟩ := h9
      unfold simI famIn tasksIn sightsIn
      rw [E88, if_neg (by decide), F2 50 3 (by decide) (by decide) (by decide) (by decide) (by decide), F2 (50 + 1) 4 (by decide) (by decide) (by decide) (by decide) (by decide), F2 (50 + 1) 5 (by decide) (by decide) (by decide) (by decide) (by decide), F2 (50 + 1) 6 (by decide) (by decide) (by decide) (by decide) (by decide), F2 (50 + 10) 3 (by decide) (by decide) (by decide) (by decide) (by decide), E (50 + 1 + 1) (by decide), E (50 + 1 + 2) (by decide), E (50 + 1 + 3) (by decide), E (50 + 1 + 4) (by decide), E (50 + 6 + 1) (by decide), E (50 + 6 + 2) (by decide), E (50 + 6 + 3) (by decide), E (50 + 10 + 1) (by decide), E (50 + 10 + 2) (by decide), E (50 + 10 + 3) (by decide), T (90 * 1) (by decide), T (90 * 1 + 1) (by decide), T (90 * 1 + 2) (by decide), T (90 * 1 + 3) (by decide)]
      refine ⟨z1, z2, z3, z4, z5, fun y => ?_⟩
      obtain ⟨y1, y2, y3⟩ := z6 y
      refine ⟨fun i hi => ?_, fun i hi => ?_, y3⟩
      · rw [T _ (by omega), T _ (by omega), T _ (by omega), T _ (by omega), T _ (by omega), T _ (by omega), T _ (by omega)]
        exact y1 i hi
      · rw [T _ (by omega), T _ (by omega), T _ (by omega)]
        exact y2 i hi
