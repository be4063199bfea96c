/-! done: both -/
theorem SI_FP {w w' : AW} (h : SI w) (ok : OK w') (A : ∀ a, a ∈ relA → a ∉ exFA → aget w' a = aget w a) (F' : ∀ q, q ∈ relF → q ∉ exFF → q ∉ exPF → fI w' q.1 q.2 = fI w q.1 q.2) (hf : famIn w' 1) (hsim : simF w') (hp : fI w' 11 1 = fI w' 64 15 ∧ rng (fI w' 11 1) 60) : SI w' := by
  obtain ⟨h0, h1, h2, h3, h4, h5, h6, h7, h8, h9⟩ := h
  have F : ∀ f k, (f, k) ∈ relF → (f, k) ∉ exFF → (f, k) ∉ exPF → fI w' f k = fI w f k := fun f k q q' q'' => F' (f, k) q q' q''
  refine ⟨ok, hf, hsim, ?_, ?_, ?_, ?_, ?_, ?_, ?_⟩
  · unfold tasksIn at h3 ⊢
    rw [A (19 + 1) (by decide) (by decide), A (19 + 2) (by decide) (by decide), A (19 + 3) (by decide) (by decide)]
    exact h3
  · unfold simT at h4 ⊢
    rw [A 20 (by decide) (by decide), A 21 (by decide) (by decide), A 22 (by decide) (by decide), A 69 (by decide) (by decide), A 70 (by decide) (by decide), A 71 (by decide) (by decide)]
    exact h4
  · unfold sightsIn at h5 ⊢
    rw [A (23 + 1) (by decide) (by decide), A (23 + 2) (by decide) (by decide), A (23 + 3) (by decide) (by decide), F 23 3 (by decide) (by decide) (by decide)]
    exact h5
  · unfold simS at h6 ⊢
    rw [A 24 (by decide) (by decide), A 25 (by decide) (by decide), A 26 (by decide) (by decide), A 72 (by decide) (by decide), A 73 (by decide) (by decide), A 74 (by decide) (by decide), F 23 3 (by decide) (by decide) (by decide), F 64 13 (by decide) (by decide) (by decide)]
    exact h6
  · refine ⟨?_, hp⟩
    rw [A 12 (by decide) (by decide), A 75 (by decide) (by decide)]
    exact h7.1
  · exact simI_same h8 (fun a q => A a ((by decide : ∀ x ∈ [87, 88, 36 + 2, 36 + 3, 36 + 4, 36 + 5, 36 + 7, 36 + 8, 36 + 9, 36 + 11, 36 + 12, 36 + 13], x ∈ relA) a q) ((by decide : ∀ x ∈ [87, 88, 36 + 2, 36 + 3, 36 + 4, 36 + 5, 36 + 7, 36 + 8, 36 + 9, 36 + 11, 36 + 12, 36 + 13], x ∉ exFA) a q)) (fun f k q => F f k ((by decide : ∀ x ∈ [(36, 3), (36 + 1, 4), (36 + 1, 5), (36 + 1, 6), (36 + 10, 3)], x ∈ relF) (f, k) q) ((by decide : ∀ x ∈ [(36, 3), (36 + 1, 4), (36 + 1, 5), (36 + 1, 6), (36 + 10, 3)], x ∉ exFF) (f, k) q) ((by decide : ∀ x ∈ [(36, 3), (36 + 1, 4), (36 + 1, 5), (36 + 1, 6), (36 + 10, 3)], x ∉ exPF) (f, k) q))
  · exact simI_same h9 (fun a q => A a ((by decide : ∀ x ∈ [87, 88, 50 + 2, 50 + 3, 50 + 4, 50 + 5, 50 + 7, 50 + 8, 50 + 9, 50 + 11, 50 + 12, 50 + 13], x ∈ relA) a q) ((by decide : ∀ x ∈ [87, 88, 50 + 2, 50 + 3, 50 + 4, 50 + 5, 50 + 7, 50 + 8, 50 + 9, 50 + 11, 50 + 12, 50 + 13], x ∉ exFA) a q)) (fun f k q => F f k ((by decide : ∀ x ∈ [(50, 3), (50 + 1, 4), (50 + 1, 5), (50 + 1, 6), (50 + 10, 3)], x ∈ relF) (f, k) q) ((by decide : ∀ x ∈ [(50, 3), (50 + 1, 4), (50 + 1, 5), (50 + 1, 6), (50 + 10, 3)], x ∉ exFF) (f, k) q) ((by decide : ∀ x ∈ [(50, 3), (50 + 1, 4), (50 + 1, 5), (50 + 1, 6), (50 + 10, 3)], x ∉ exPF) (f, k) q))
theorem op_done {X : Scr} {w : AW} (h : SI w) : both X 48 133 [.ref 0, uns] [.ref 64, uns] w := by
  obtain ⟨h0, h1, h2, h3, h4, h5, h6, h7, h8, h9⟩ := id h
  obtain ⟨p1, p2, c, hc, p3⟩ := h7
  obtain ⟨st, di⟩ := st_of h
  obtain ⟨w1, o1, s1, k1, k2⟩ := x_wday (X := X) h0 hc p3
  have e50 : ¬ (-5 : Int32) = 0 := by decide
  have e56 : ¬ (-5 : Int32) = -6 := by decide
  have e30 : ¬ (-3 : Int32) = 0 := by decide
  have e36 : ¬ (-3 : Int32) = -6 := by decide
  -- the reference from any world that has its cells
  have hM1 : ∀ v : AW, (∀ a, a = 65 ∨ a = 66 ∨ a = 67 ∨ a = 68 → aget v a = aget w a) → fI v 64 0 = fI w 64 0 → fI v 64 5 = fI w 64 5 → fI v 64 6 = fI w 64 6 → hM v (aget w 2) (aget w 4) (aget w 5) (dsT w) := by
    intro v q q1 q2 q3
    unfold hM
    rw [q 65 (by decide), q 66 (by decide), q 67 (by decide), q 68 (by decide), q1, q2, q3]
    exact ⟨fun i hi => ⟨(h2.1 i hi).1.symm, (h2.1 i hi).2.1.symm, (h2.1 i hi).2.2.1.symm, (h2.1 i hi).2.2.2.symm⟩, h2.2.1.symm, h2.2.2.1.symm, h2.2.2.2.symm⟩
  have si1 := SI_same h o1 s1
  have m1 := hM1 w1 (fun a q => s1.1 a (by rcases q with rfl | rfl | rfl | rfl <;> decide)) (s1.2 (64, 0) (by decide)) (s1.2 (64, 5) (by decide)) (s1.2 (64, 6) (by decide))
  obtain ⟨r1, r2⟩ := x_ref (X := X) (g := aget w 12) hc o1 ((s1.2 (64, 15) (by decide)).trans (p2.symm.trans p3)) (fun t ht => by rw [s1.1 75 (by decide)]; exact (p1 t ht).symm) m1 di st
  by_cases e : fpN (aget w 12) c c 0 0 = -6
  · obtain ⟨b, hb, wf, q1, q2, q3, q4, q5, q6, q7⟩ := k2 e
    by_cases z : (dayN (aget w 12) c (aget w 2) (aget w 4) (aget w 5) b 0 (dsT w) (-6) (-6)).1 = -6
    · rw [if_pos z] at q1
      have q7 := q7 z
      have f1 := x_fcp (X := X) (ok_f1 o1) (ok_fam o1 (F := 14) (by decide)) (by decide)
      have okf : OK (fcp w1 1 14) := fcp_ok o1 (by decide)
      obtain ⟨W, hW⟩ : ∃ W, W = fset (fcp w1 1 14) 11 1 (.int 0) := ⟨_, rfl⟩
      have okW : OK W := by rw [hW]; exact ok_f okf (by decide)
      have aW : ∀ a, ¬ a = 2 → ¬ a = 3 → ¬ a = 4 → ¬ a = 5 → aget W a = aget w1 a := fun a z1 z2 z3 z4 => by
        rw [hW, ag_f]; exact fcp_o z1 z2 z3 z4
      have fW : ∀ f k, ¬ (11 = f ∧ 1 = k) → ¬ 1 = f → fI W f k = fI w1 f k := fun f k z1 z2 => by
        rw [hW, fi_n z1]; exact fcp_fo (Or.inl z2)
      have mW := hM1 W (fun a q => by
        rcases q with rfl | rfl | rfl | rfl
        · rw [aW 65 (by decide) (by decide) (by decide) (by decide)]; exact s1.1 65 (by decide)
        · rw [aW 66 (by decide) (by decide) (by decide) (by decide)]; exact s1.1 66 (by decide)
        · rw [aW 67 (by decide) (by decide) (by decide) (by decide)]; exact s1.1 67 (by decide)
        · rw [aW 68 (by decide) (by decide) (by decide) (by decide)]; exact s1.1 68 (by decide)) ((fW 64 0 (by decide) (by decide)).trans (s1.2 (64, 0) (by decide))) ((fW 64 5 (by decide) (by decide)).trans (s1.2 (64, 5) (by decide))) ((fW 64 6 (by decide) (by decide)).trans (s1.2 (64, 6) (by decide)))
      obtain ⟨-, g2⟩ := x_ref (X := X) (g := aget w 12) hc okW ((fW 64 15 (by decide) (by decide)).trans ((s1.2 (64, 15) (by decide)).trans (p2.symm.trans p3))) (fun t ht => by rw [aW 75 (by decide) (by decide) (by decide) (by decide), s1.1 75 (by decide)]; exact (p1 t ht).symm) mW di st
      obtain ⟨w2, t1, t2, t3, t4, t5, t6, t7, t8, t9, t10, t11, t12⟩ := g2 b e hb wf
      rw [if_pos z] at t1
      have ok3 : OK (fset w2 64 15 (.int 0)) := ok_f t2 (by decide)
      have g13 : fI (fset (fcp w1 1 14) 11 1 (.int 0)) 13 1 = nI b := by
        rw [fi_n (by decide), fcp_fo (Or.inl (by decide))]; exact q7
      refine ⟨.int (nI b), W, fset w2 64 15 (.int 0), ?_, ?_, ?_⟩
      · have okW' : OK (fset (fcp w1 1 14) 11 1 (.int 0)) := ok_f okf (by decide)
        rw [hW]
        simp only [z48_0, z48_1, z48_4, z48_5, z48_6, z48_9, z48_10, z48_11, z48_12, z48_15, z48_16, z48_19, z48_22, z48_25, z48_26, z48_29, z48_30, z48_33, z48_34, z48_37, z48_40, Option.bind_some, Option.toList_some, Option.toList_none, List.cons_append, List.nil_append, sc_i, sc_r, sc_l, sc_u, sc_s, List.length_nil, List.length_cons, Nat.reduceAdd, Nat.reduceLeDiff, Nat.zero_le, le4_0, le4_1, le4_2, le4_3, rz0, rz1, rzt, eq_self, tI_0, tI_n0, if_true, if_false, ne_eq, not_true_eq_false, not_false_eq_true, and_self, Bool.false_eq_true, sc_u, oc0 h0, of0_0 h0, og0_0 h0, of0_1 h0, og0_1 h0, of0_2 h0, og0_2 h0, of0_3 h0, og0_3 h0, of0_4 h0, og0_4 h0, of0_5 h0, og0_5 h0, of0_6 h0, og0_6 h0, of0_7 h0, og0_7 h0, of0_8 h0, og0_8 h0, of0_9 h0, og0_9 h0, of0_10 h0, og0_10 h0, q1, oc0 o1, of0_0 o1, og0_0 o1, of0_1 o1, og0_1 o1, of0_2 o1, og0_2 o1, of0_3 o1, og0_3 o1, of0_4 o1, og0_4 o1, of0_5 o1, og0_5 o1, of0_6 o1, og0_6 o1, of0_7 o1, og0_7 o1, of0_8 o1, og0_8 o1, of0_9 o1, og0_9 o1, of0_10 o1, og0_10 o1, oc1 o1, of1_0 o1, og1_0 o1, of1_1 o1, og1_1 o1, of1_2 o1, og1_2 o1, of1_3 o1, og1_3 o1, of1_4 o1, og1_4 o1, ok1_4 o1, of1_5 o1, og1_5 o1, ok1_5 o1, of1_6 o1, og1_6 o1, ok1_6 o1, oc13 o1, of13_0 o1, og13_0 o1, of13_1 o1, og13_1 o1, ok13_1 o1, of13_2 o1, og13_2 o1, ok13_2 o1, of13_3 o1, og13_3 o1, ok13_3 o1, of13_4 o1, og13_4 o1, ok13_4 o1, of13_5 o1, og13_5 o1, ok13_5 o1, f1, oc0 okf, of0_0 okf, og0_0 okf, of0_1 okf, og0_1 okf, of0_2 okf, og0_2 okf, of0_3 okf, og0_3 okf, of0_4 okf, og0_4 okf, of0_5 okf, og0_5 okf, of0_6 okf, og0_6 okf, of0_7 okf, og0_7 okf, of0_8 okf, og0_8 okf, of0_9 okf, og0_9 okf, of0_10 okf, og0_10 okf, oc11 okf, of11_0 okf, og11_0 okf, of11_1 okf, og11_1 okf, ok11_1 okf, oc0 okW', of0_0 okW', og0_0 okW', of0_1 okW', og0_1 okW', of0_2 okW', og0_2 okW', of0_3 okW', og0_3 okW', of0_4 okW', og0_4 okW', of0_5 okW', og0_5 okW', of0_6 okW', og0_6 okW', of0_7 okW', og0_7 okW', of0_8 okW', og0_8 okW', of0_9 okW', og0_9 okW', of0_10 okW', og0_10 okW', oc13 okW', of13_0 okW', og13_0 okW', of13_1 okW', og13_1 okW', ok13_1 okW', of13_2 okW', og13_2 okW', ok13_2 okW', of13_3 okW', og13_3 okW', ok13_3 okW', of13_4 okW', og13_4 okW', ok13_4 okW', of13_5 okW', og13_5 okW', ok13_5 okW', g13]
      · have f21 : fI (fset w2 64 15 (.int 0)) 64 21 = nI b := (fi_n (by decide)).trans t12
        simp only [z133_0, z133_1, z133_4, z133_5, z133_6, z133_8, z133_11, z133_12, z133_13, z133_16, z133_17, z133_18, z133_19, z133_22, z133_23, z133_26, Option.bind_some, Option.toList_some, Option.toList_none, List.cons_append, List.nil_append, sc_i, sc_r, sc_l, sc_u, sc_s, List.length_nil, List.length_cons, Nat.reduceAdd, Nat.reduceLeDiff, Nat.zero_le, le4_0, le4_1, le4_2, le4_3, rz0, rz1, rzt, eq_self, tI_0, tI_n0, if_true, if_false, ne_eq, not_true_eq_false, not_false_eq_true, and_self, Bool.false_eq_true, sc_u, oc64 okW, of64_0 okW, og64_0 okW, ok64_0 okW, of64_1 okW, og64_1 okW, of64_2 okW, og64_2 okW, of64_3 okW, og64_3 okW, of64_4 okW, og64_4 okW, of64_5 okW, og64_5 okW, ok64_5 okW, of64_6 okW, og64_6 okW, ok64_6 okW, of64_7 okW, og64_7 okW, of64_8 okW, og64_8 okW, of64_9 okW, og64_9 okW, of64_10 okW, og64_10 okW, of64_11 okW, og64_11 okW, of64_12 okW, og64_12 okW, of64_13 okW, og64_13 okW, ok64_13 okW, of64_14 okW, og64_14 okW, of64_15 okW, og64_15 okW, ok64_15 okW, of64_16 okW, og64_16 okW, of64_17 okW, og64_17 okW, of64_18 okW, og64_18 okW, of64_19 okW, og64_19 okW, of64_20 okW, og64_20 okW, of64_21 okW, og64_21 okW, ok64_21 okW, of64_22 okW, og64_22 okW, of64_23 okW, og64_23 okW, ok64_23 okW, of64_24 okW, og64_24 okW, ok64_24 okW, of64_25 okW, og64_25 okW, ok64_25 okW, of64_26 okW, og64_26 okW, ok64_26 okW, of64_27 okW, og64_27 okW, ok64_27 okW, of64_28 okW, og64_28 okW, of64_29 okW, og64_29 okW, of64_30 okW, og64_30 okW, of64_31 okW, og64_31 okW, of64_32 okW, og64_32 okW, of64_33 okW, og64_33 okW, of64_34 okW, og64_34 okW, of64_35 okW, og64_35 okW, ok64_35 okW, of64_36 okW, og64_36 okW, ok64_36 okW, t1, oc64 t2, of64_0 t2, og64_0 t2, ok64_0 t2, of64_1 t2, og64_1 t2, of64_2 t2, og64_2 t2, of64_3 t2, og64_3 t2, of64_4 t2, og64_4 t2, of64_5 t2, og64_5 t2, ok64_5 t2, of64_6 t2, og64_6 t2, ok64_6 t2, of64_7 t2, og64_7 t2, of64_8 t2, og64_8 t2, of64_9 t2, og64_9 t2, of64_10 t2, og64_10 t2, of64_11 t2, og64_11 t2, of64_12 t2, og64_12 t2, of64_13 t2, og64_13 t2, ok64_13 t2, of64_14 t2, og64_14 t2, of64_15 t2, og64_15 t2, ok64_15 t2, of64_16 t2, og64_16 t2, of64_17 t2, og64_17 t2, of64_18 t2, og64_18 t2, of64_19 t2, og64_19 t2, of64_20 t2, og64_20 t2, of64_21 t2, og64_21 t2, ok64_21 t2, of64_22 t2, og64_22 t2, of64_23 t2, og64_23 t2, ok64_23 t2, of64_24 t2, og64_24 t2, ok64_24 t2, of64_25 t2, og64_25 t2, ok64_25 t2, of64_26 t2, og64_26 t2, ok64_26 t2, of64_27 t2, og64_27 t2, ok64_27 t2, of64_28 t2, og64_28 t2, of64_29 t2, og64_29 t2, of64_30 t2, og64_30 t2, of64_31 t2, og64_31 t2, of64_32 t2, og64_32 t2, of64_33 t2, og64_33 t2, of64_34 t2, og64_34 t2, of64_35 t2, og64_35 t2, ok64_35 t2, of64_36 t2, og64_36 t2, ok64_36 t2, oc64 ok3, of64_0 ok3, og64_0 ok3, ok64_0 ok3, of64_1 ok3, og64_1 ok3, of64_2 ok3, og64_2 ok3, of64_3 ok3, og64_3 ok3, of64_4 ok3, og64_4 ok3, of64_5 ok3, og64_5 ok3, ok64_5 ok3, of64_6 ok3, og64_6 ok3, ok64_6 ok3, of64_7 ok3, og64_7 ok3, of64_8 ok3, og64_8 ok3, of64_9 ok3, og64_9 ok3, of64_10 ok3, og64_10 ok3, of64_11 ok3, og64_11 ok3, of64_12 ok3, og64_12 ok3, of64_13 ok3, og64_13 ok3, ok64_13 ok3, of64_14 ok3, og64_14 ok3, of64_15 ok3, og64_15 ok3, ok64_15 ok3, of64_16 ok3, og64_16 ok3, of64_17 ok3, og64_17 ok3, of64_18 ok3, og64_18 ok3, of64_19 ok3, og64_19 ok3, of64_20 ok3, og64_20 ok3, of64_21 ok3, og64_21 ok3, ok64_21 ok3, of64_22 ok3, og64_22 ok3, of64_23 ok3, og64_23 ok3, ok64_23 ok3, of64_24 ok3, og64_24 ok3, ok64_24 ok3, of64_25 ok3, og64_25 ok3, ok64_25 ok3, of64_26 ok3, og64_26 ok3, ok64_26 ok3, of64_27 ok3, og64_27 ok3, ok64_27 ok3, of64_28 ok3, og64_28 ok3, of64_29 ok3, og64_29 ok3, of64_30 ok3, og64_30 ok3, of64_31 ok3, og64_31 ok3, of64_32 ok3, og64_32 ok3, of64_33 ok3, og64_33 ok3, of64_34 ok3, og64_34 ok3, of64_35 ok3, og64_35 ok3, ok64_35 ok3, of64_36 ok3, og64_36 ok3, ok64_36 ok3, f21]
      · have A : ∀ a, a ∈ relA → a ∉ exFA → aget (fset w2 64 15 (.int 0)) a = aget w a := fun a ha hn => by
          have m := (by decide : ∀ a ∈ relA, a ∉ exFA → ¬ a = 66 ∧ ¬ a = 76 ∧ ¬ a = 77 ∧ ¬ a = 78 ∧ ¬ a = 79 ∧ ¬ a = 80 ∧ ¬ a = 81 ∧ ¬ a = 2 ∧ ¬ a = 3 ∧ ¬ a = 4 ∧ ¬ a = 5) a ha hn
          rw [ag_f, t4.1 a m.1 m.2.1 m.2.2.1 m.2.2.2.1 m.2.2.2.2.1 m.2.2.2.2.2.1 m.2.2.2.2.2.2.1, aW a m.2.2.2.2.2.2.2.1 m.2.2.2.2.2.2.2.2.1 m.2.2.2.2.2.2.2.2.2.1 m.2.2.2.2.2.2.2.2.2.2]
          exact s1.1 a ha
        have F : ∀ q, q ∈ relF → q ∉ exFF → q ∉ exPF → fI (fset w2 64 15 (.int 0)) q.1 q.2 = fI w q.1 q.2 := fun q hq n1 n2 => by
          have m := (by decide : ∀ q ∈ relF, q ∉ exFF → q ∉ exPF → ¬ (64 = q.1 ∧ 15 = q.2) ∧ ¬ (64 = q.1 ∧ (q.2 = 0 ∨ q.2 = 5 ∨ q.2 = 6 ∨ q.2 = 21 ∨ q.2 = 23 ∨ q.2 = 24 ∨ q.2 = 25 ∨ q.2 = 26 ∨ q.2 = 27)) ∧ ¬ (11 = q.1 ∧ 1 = q.2) ∧ ¬ 1 = q.1) q hq n1 n2
          rw [fi_n m.1, t4.2 q.1 q.2 m.2.1, fW q.1 q.2 m.2.2.1 m.2.2.2]
          exact s1.2 q hq
        have c2 : ∀ a, ¬ a = 66 → ¬ a = 76 → ¬ a = 77 → ¬ a = 78 → ¬ a = 79 → ¬ a = 80 → ¬ a = 81 → aget (fset w2 64 15 (.int 0)) a = aget (fcp w1 1 14) a := fun a z1 z2 z3 z4 z5 z6 z7 => by
          rw [ag_f, t4.1 a z1 z2 z3 z4 z5 z6 z7, hW, ag_f]
        have c3 : ∀ k, fI (fset w2 64 15 (.int 0)) 1 k = fI (fcp w1 1 14) 1 k := fun k => by
          rw [fi_n (by omega), t4.2 1 k (by omega), hW, fi_n (by omega)]
        obtain ⟨v4, v5, v6⟩ := fcp_f (w := w1) (G := 14) (ok_f1 o1)
        have fam : ∀ i, i < 8 → aget (fset w2 64 15 (.int 0)) 2 i = aget w 2 i ∧ aget (fset w2 64 15 (.int 0)) 3 i = (dayN (aget w 12) c (aget w 2) (aget w 4) (aget w 5) b 0 (dsT w) (-6) (-6)).2.2.1.1 i ∧ aget (fset w2 64 15 (.int 0)) 4 i = aget w 4 i ∧ aget (fset w2 64 15 (.int 0)) 5 i = aget w 5 i := fun i hi => by
          obtain ⟨x1, x2, x3, x4⟩ := fcp_i (w := w1) (G := 14) (ok_f1 o1) hi
          obtain ⟨y1, y2, y3, y4⟩ := q2.1 i hi
          rw [c2 2 (by decide) (by decide) (by decide) (by decide) (by decide) (by decide) (by decide), c2 3 (by decide) (by decide) (by decide) (by decide) (by decide) (by decide) (by decide), c2 4 (by decide) (by decide) (by decide) (by decide) (by decide) (by decide) (by decide), c2 5 (by decide) (by decide) (by decide) (by decide) (by decide) (by decide) (by decide)]
          exact ⟨x1.trans y1, x2.trans y2, x3.trans y3, x4.trans y4⟩
        have l4 : fI (fset w2 64 15 (.int 0)) 1 4 = (dayN (aget w 12) c (aget w 2) (aget w 4) (aget w 5) b 0 (dsT w) (-6) (-6)).2.2.1.2.1 := (c3 4).trans (v4.trans q2.2.1)
        have l5 : fI (fset w2 64 15 (.int 0)) 1 5 = (dayN (aget w 12) c (aget w 2) (aget w 4) (aget w 5) b 0 (dsT w) (-6) (-6)).2.2.1.2.2.1 := (c3 5).trans (v5.trans q2.2.2.1)
        have l6 : fI (fset w2 64 15 (.int 0)) 1 6 = (dayN (aget w 12) c (aget w 2) (aget w 4) (aget w 5) b 0 (dsT w) (-6) (-6)).2.2.1.2.2.2 := (c3 6).trans (v6.trans q2.2.2.2)
        have n11 : fI (fset w2 64 15 (.int 0)) 11 1 = 0 := by
          rw [fi_n (by decide), t4.2 11 1 (by decide), hW, fi_s (ok11_1 okf)]
        have n15 : fI (fset w2 64 15 (.int 0)) 64 15 = 0 := fi_s (ok64_15 t2)
        refine SI_FP h ok3 A F ⟨fun i hi => ?_, ?_, ?_⟩ ⟨fun i hi => ?_, ?_, ?_, ?_⟩ ⟨by rw [n11, n15], by rw [n11]; exact ⟨0, by decide, rfl⟩⟩
        · obtain ⟨x1, x2, x3, x4⟩ := fam i hi
          show rng (aget (fset w2 64 15 (.int 0)) 2 i) 99 ∧ rng (aget (fset w2 64 15 (.int 0)) 3 i) 99 ∧ rng (aget (fset w2 64 15 (.int 0)) 4 i) 1023 ∧ rng (aget (fset w2 64 15 (.int 0)) 5 i) 255
          rw [x1, x2, x3, x4]
          exact ⟨(h1.1 i hi).1, t6.1 i hi, (h1.1 i hi).2.2.1, (h1.1 i hi).2.2.2⟩
        · rw [l4]; exact t6.2.1
        · rw [l4, l5]; exact t6.2.2
        · obtain ⟨x1, x2, x3, x4⟩ := fam i hi
          obtain ⟨y1, y2, y3, y4⟩ := t5.1 i hi
          rw [x1, x2, x3, x4, ag_f, ag_f, ag_f, ag_f, y1, y2, y3, y4]
          exact ⟨rfl, rfl, rfl, rfl⟩
        · rw [l4, fi_n (by decide)]; exact t5.2.1.symm
        · rw [l5, fi_n (by decide)]; exact t5.2.2.1.symm
        · rw [l6, fi_n (by decide)]; exact t5.2.2.2.symm
    · rw [if_neg z] at q1
      obtain ⟨w2, t1, t2, t3, t4, -⟩ := r2 b e hb wf
      rw [if_neg z] at t1
      obtain ⟨w3, b1, b2, b3⟩ := SI_back (X := X) (v := -3) si1 t2 t3 t4
      refine ⟨.int (-3), w1, w3, ?_, ?_, b2⟩
      · simp only [z48_0, z48_1, z48_4, z48_5, z48_6, z48_9, z48_10, z48_11, z48_12, z48_15, z48_16, z48_19, z48_22, z48_25, z48_26, z48_29, z48_30, z48_33, z48_34, z48_37, z48_40, Option.bind_some, Option.toList_some, Option.toList_none, List.cons_append, List.nil_append, sc_i, sc_r, sc_l, sc_u, sc_s, List.length_nil, List.length_cons, Nat.reduceAdd, Nat.reduceLeDiff, Nat.zero_le, le4_0, le4_1, le4_2, le4_3, rz0, rz1, rzt, eq_self, tI_0, tI_n0, if_true, if_false, ne_eq, not_true_eq_false, not_false_eq_true, and_self, Bool.false_eq_true, sc_u, oc0 h0, of0_0 h0, og0_0 h0, of0_1 h0, og0_1 h0, of0_2 h0, og0_2 h0, of0_3 h0, og0_3 h0, of0_4 h0, og0_4 h0, of0_5 h0, og0_5 h0, of0_6 h0, og0_6 h0, of0_7 h0, og0_7 h0, of0_8 h0, og0_8 h0, of0_9 h0, og0_9 h0, of0_10 h0, og0_10 h0, q1, e30]
      · simp only [z133_0, z133_1, z133_4, z133_5, z133_6, z133_8, z133_11, z133_12, z133_13, z133_16, z133_17, z133_18, z133_19, z133_22, z133_23, z133_26, Option.bind_some, Option.toList_some, Option.toList_none, List.cons_append, List.nil_append, sc_i, sc_r, sc_l, sc_u, sc_s, List.length_nil, List.length_cons, Nat.reduceAdd, Nat.reduceLeDiff, Nat.zero_le, le4_0, le4_1, le4_2, le4_3, rz0, rz1, rzt, eq_self, tI_0, tI_n0, if_true, if_false, ne_eq, not_true_eq_false, not_false_eq_true, and_self, Bool.false_eq_true, sc_u, oc64 o1, of64_0 o1, og64_0 o1, ok64_0 o1, of64_1 o1, og64_1 o1, of64_2 o1, og64_2 o1, of64_3 o1, og64_3 o1, of64_4 o1, og64_4 o1, of64_5 o1, og64_5 o1, ok64_5 o1, of64_6 o1, og64_6 o1, ok64_6 o1, of64_7 o1, og64_7 o1, of64_8 o1, og64_8 o1, of64_9 o1, og64_9 o1, of64_10 o1, og64_10 o1, of64_11 o1, og64_11 o1, of64_12 o1, og64_12 o1, of64_13 o1, og64_13 o1, ok64_13 o1, of64_14 o1, og64_14 o1, of64_15 o1, og64_15 o1, ok64_15 o1, of64_16 o1, og64_16 o1, of64_17 o1, og64_17 o1, of64_18 o1, og64_18 o1, of64_19 o1, og64_19 o1, of64_20 o1, og64_20 o1, of64_21 o1, og64_21 o1, ok64_21 o1, of64_22 o1, og64_22 o1, of64_23 o1, og64_23 o1, ok64_23 o1, of64_24 o1, og64_24 o1, ok64_24 o1, of64_25 o1, og64_25 o1, ok64_25 o1, of64_26 o1, og64_26 o1, ok64_26 o1, of64_27 o1, og64_27 o1, ok64_27 o1, of64_28 o1, og64_28 o1, of64_29 o1, og64_29 o1, of64_30 o1, og64_30 o1, of64_31 o1, og64_31 o1, of64_32 o1, og64_32 o1, of64_33 o1, og64_33 o1, of64_34 o1, og64_34 o1, of64_35 o1, og64_35 o1, ok64_35 o1, of64_36 o1, og64_36 o1, ok64_36 o1, t1, e36, oc64 t2, of64_0 t2, og64_0 t2, ok64_0 t2, of64_1 t2, og64_1 t2, of64_2 t2, og64_2 t2, of64_3 t2, og64_3 t2, of64_4 t2, og64_4 t2, of64_5 t2, og64_5 t2, ok64_5 t2, of64_6 t2, og64_6 t2, ok64_6 t2, of64_7 t2, og64_7 t2, of64_8 t2, og64_8 t2, of64_9 t2, og64_9 t2, of64_10 t2, og64_10 t2, of64_11 t2, og64_11 t2, of64_12 t2, og64_12 t2, of64_13 t2, og64_13 t2, ok64_13 t2, of64_14 t2, og64_14 t2, of64_15 t2, og64_15 t2, ok64_15 t2, of64_16 t2, og64_16 t2, of64_17 t2, og64_17 t2, of64_18 t2, og64_18 t2, of64_19 t2, og64_19 t2, of64_20 t2, og64_20 t2, of64_21 t2, og64_21 t2, ok64_21 t2, of64_22 t2, og64_22 t2, of64_23 t2, og64_23 t2, ok64_23 t2, of64_24 t2, og64_24 t2, ok64_24 t2, of64_25 t2, og64_25 t2, ok64_25 t2, of64_26 t2, og64_26 t2, ok64_26 t2, of64_27 t2, og64_27 t2, ok64_27 t2, of64_28 t2, og64_28 t2, of64_29 t2, og64_29 t2, of64_30 t2, og64_30 t2, of64_31 t2, og64_31 t2, of64_32 t2, og64_32 t2, of64_33 t2, og64_33 t2, of64_34 t2, og64_34 t2, of64_35 t2, og64_35 t2, ok64_35 t2, of64_36 t2, og64_36 t2, ok64_36 t2, b1]
  · obtain ⟨w2, t1, t2, t3, t4⟩ := r1 e
    obtain ⟨w3, b1, b2, b3⟩ := SI_back (X := X) (v := -5) si1 t2 t3 t4
    refine ⟨.int (-5), w1, w3, ?_, ?_, b2⟩
    · simp only [z48_0, z48_1, z48_4, z48_5, z48_6, z48_9, z48_10, z48_11, z48_12, z48_15, z48_16, z48_19, z48_22, z48_25, z48_26, z48_29, z48_30, z48_33, z48_34, z48_37, z48_40, Option.bind_some, Option.toList_some, Option.toList_none, List.cons_append, List.nil_append, sc_i, sc_r, sc_l, sc_u, sc_s, List.length_nil, List.length_cons, Nat.reduceAdd, Nat.reduceLeDiff, Nat.zero_le, le4_0, le4_1, le4_2, le4_3, rz0, rz1, rzt, eq_self, tI_0, tI_n0, if_true, if_false, ne_eq, not_true_eq_false, not_false_eq_true, and_self, Bool.false_eq_true, sc_u, oc0 h0, of0_0 h0, og0_0 h0, of0_1 h0, og0_1 h0, of0_2 h0, og0_2 h0, of0_3 h0, og0_3 h0, of0_4 h0, og0_4 h0, of0_5 h0, og0_5 h0, of0_6 h0, og0_6 h0, of0_7 h0, og0_7 h0, of0_8 h0, og0_8 h0, of0_9 h0, og0_9 h0, of0_10 h0, og0_10 h0, k1 e, e50]
    · simp only [z133_0, z133_1, z133_4, z133_5, z133_6, z133_8, z133_11, z133_12, z133_13, z133_16, z133_17, z133_18, z133_19, z133_22, z133_23, z133_26, Option.bind_some, Option.toList_some, Option.toList_none, List.cons_append, List.nil_append, sc_i, sc_r, sc_l, sc_u, sc_s, List.length_nil, List.length_cons, Nat.reduceAdd, Nat.reduceLeDiff, Nat.zero_le, le4_0, le4_1, le4_2, le4_3, rz0, rz1, rzt, eq_self, tI_0, tI_n0, if_true, if_false, ne_eq, not_true_eq_false, not_false_eq_true, and_self, Bool.false_eq_true, sc_u, oc64 o1, of64_0 o1, og64_0 o1, ok64_0 o1, of64_1 o1, og64_1 o1, of64_2 o1, og64_2 o1, of64_3 o1, og64_3 o1, of64_4 o1, og64_4 o1, of64_5 o1, og64_5 o1, ok64_5 o1, of64_6 o1, og64_6 o1, ok64_6 o1, of64_7 o1, og64_7 o1, of64_8 o1, og64_8 o1, of64_9 o1, og64_9 o1, of64_10 o1, og64_10 o1, of64_11 o1, og64_11 o1, of64_12 o1, og64_12 o1, of64_13 o1, og64_13 o1, ok64_13 o1, of64_14 o1, og64_14 o1, of64_15 o1, og64_15 o1, ok64_15 o1, of64_16 o1, og64_16 o1, of64_17 o1, og64_17 o1, of64_18 o1, og64_18 o1, of64_19 o1, og64_19 o1, of64_20 o1, og64_20 o1, of64_21 o1, og64_21 o1, ok64_21 o1, of64_22 o1, og64_22 o1, of64_23 o1, og64_23 o1, ok64_23 o1, of64_24 o1, og64_24 o1, ok64_24 o1, of64_25 o1, og64_25 o1, ok64_25 o1, of64_26 o1, og64_26 o1, ok64_26 o1, of64_27 o1, og64_27 o1, ok64_27 o1, of64_28 o1, og64_28 o1, of64_29 o1, og64_29 o1, of64_30 o1, og64_30 o1, of64_31 o1, og64_31 o1, of64_32 o1, og64_32 o1, of64_33 o1, og64_33 o1, of64_34 o1, og64_34 o1, of64_35 o1, og64_35 o1, ok64_35 o1, of64_36 o1, og64_36 o1, ok64_36 o1, t1, e56, oc64 t2, of64_0 t2, og64_0 t2, ok64_0 t2, of64_1 t2, og64_1 t2, of64_2 t2, og64_2 t2, of64_3 t2, og64_3 t2, of64_4 t2, og64_4 t2, of64_5 t2, og64_5 t2, ok64_5 t2, of64_6 t2, og64_6 t2, ok64_6 t2, of64_7 t2, og64_7 t2, of64_8 t2, og64_8 t2, of64_9 t2, og64_9 t2, of64_10 t2, og64_10 t2, of64_11 t2, og64_11 t2, of64_12 t2, og64_12 t2, of64_13 t2, og64_13 t2, ok64_13 t2, of64_14 t2, og64_14 t2, of64_15 t2, og64_15 t2, ok64_15 t2, of64_16 t2, og64_16 t2, of64_17 t2, og64_17 t2, of64_18 t2, og64_18 t2, of64_19 t2, og64_19 t2, of64_20 t2, og64_20 t2, of64_21 t2, og64_21 t2, ok64_21 t2, of64_22 t2, og64_22 t2, of64_23 t2, og64_23 t2, ok64_23 t2, of64_24 t2, og64_24 t2, ok64_24 t2, of64_25 t2, og64_25 t2, ok64_25 t2, of64_26 t2, og64_26 t2, ok64_26 t2, of64_27 t2, og64_27 t2, ok64_27 t2, of64_28 t2, og64_28 t2, of64_29 t2, og64_29 t2, of64_30 t2, og64_30 t2, of64_31 t2, og64_31 t2, of64_32 t2, og64_32 t2, of64_33 t2, og64_33 t2, of64_34 t2, og64_34 t2, of64_35 t2, og64_35 t2, ok64_35 t2, of64_36 t2, og64_36 t2, ok64_36 t2, b1]
