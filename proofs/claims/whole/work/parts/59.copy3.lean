/-! the sights -/
theorem and1 {x : Int32} (h : rng x 1) : x &&& 1 = x := by
  obtain ⟨m, hm, rfl⟩ := h
  rcases Nat.le_one_iff_eq_zero_or_eq_one.mp hm with rfl | rfl <;> rfl
def sgW (w w' : AW) (S : Nat) : Prop := (∀ a, ¬ a = S + 1 → ¬ a = S + 2 → ¬ a = S + 3 → aget w' a = aget w a)
theorem sgt_as {w : AW} {S a : Nat} {g : Nat → Int32} (h : sgtOK w S) : sgtOK (aset w a g) S := by
  obtain ⟨f0, f1, f2, f3, f4, f5, f6, f7, f8, f9, f10⟩ := h
  refine ⟨?_, ?_, ?_, ?_, ?_, ?_, ?_, ?_, ?_, ?_, ?_⟩
  · rw [ob_a]; exact f0
  all_goals simp only [fo_f, fo_a, fo_j, co_f, co_a, co_j, ao_f, ao_a, ao_j, zo_f, zo_a, zo_j, jo_f, jo_a, jo_j, al_f, al_a, al_j, fg_a, fg_j, ag_f, ag_j, jg_f, jg_a, fk_f, fk_a, fk_j, fi_a, fi_j, f1, f2, f3, f4, f5, f6, f7, f8, f9, f10]
theorem x_scpL {X : Scr} {S Q : Nat} (hd : S + 3 < Q ∨ Q + 3 < S) : ∀ (n i : Nat), i + n = 8 → ∀ w : AW, sgtOK w S → sgtOK w Q → (∀ j, j < 8 → rng (aget w (Q + 3) j) 1) → (∀ j, j < i → aget w (S + 1) j = aget w (Q + 1) j ∧ aget w (S + 2) j = aget w (Q + 2) j ∧ aget w (S + 3) j = aget w (Q + 3) j) → ∃ w', Z X 89 2 [.ref S, .ref Q, .int (nI i)] [] w = Z X 89 50 [.ref S, .ref Q, .int (nI 8)] [] w' ∧ (OK w → OK w') ∧ sgtOK w' S ∧ sgtOK w' Q ∧ (∀ j, j < 8 → aget w' (S + 1) j = aget w (Q + 1) j ∧ aget w' (S + 2) j = aget w (Q + 2) j ∧ aget w' (S + 3) j = aget w (Q + 3) j) ∧ sgW w w' S ∧ (∀ f k, fI w' f k = fI w f k) := by
  intro n
  induction n with
  | zero =>
    intro i hi w hS hQ hr hg
    have hi : i = 8 := hi
    subst hi
    have e : nI 8 ≥ 8 := by decide
    refine ⟨w, ?_, id, hS, hQ, hg, fun _ _ _ _ => rfl, fun _ _ => rfl⟩
    rw [z89_2]
    simp only [z89_3, z89_5, Option.bind_some, Option.toList_some, Option.toList_none, List.cons_append, List.nil_append, sc_i, sc_r, sc_l, sc_u, sc_s, List.length_nil, List.length_cons, Nat.reduceAdd, Nat.reduceLeDiff, Nat.zero_le, le4_0, le4_1, le4_2, le4_3, rz0, rz1, rzt, eq_self, tI_0, tI_n0, if_true, if_false, ne_eq, not_true_eq_false, not_false_eq_true, and_self, Bool.false_eq_true, e]
  | succ n ih =>
    intro i hi w hS hQ hr hg
    have hi8 : i < 8 := by omega
    have m12 : ¬ S + 1 = S + 2 := by omega
    have m13 : ¬ S + 1 = S + 3 := by omega
    have m23 : ¬ S + 2 = S + 3 := by omega
    have m21 : ¬ S + 2 = S + 1 := by omega
    have m31 : ¬ S + 3 = S + 1 := by omega
    have m32 : ¬ S + 3 = S + 2 := by omega
    have nn : ∀ x y : Nat, x ≤ 3 → y ≤ 3 → ¬ S + x = Q + y := fun x y _ _ => by omega
    obtain ⟨f0, f1, f2, f3, f4, f5, f6, f7, f8, f9, f10⟩ := id hS
    obtain ⟨g0, g1, g2, g3, g4, g5, g6, g7, g8, g9, g10⟩ := id hQ
    have hz : ∀ {w1 : AW} {a : Nat} {g : Nat → Int32}, zok w1 a = true → aget (aset w1 a g) a = g := fun h => ag_z h
    obtain ⟨W, hW⟩ : ∃ W, W = aset (aset (aset w (S + 1) (upd (aget w (S + 1)) i (aget w (Q + 1) i))) (S + 2) (upd (aget w (S + 2)) i (aget w (Q + 2) i))) (S + 3) (upd (aget w (S + 3)) i (aget w (Q + 3) i)) := ⟨_, rfl⟩
    have gQ : ∀ y, y ≤ 3 → aget W (Q + y) = aget w (Q + y) := fun y hy => by
      rw [hW, ag_n (nn 3 y (by omega) hy), ag_n (nn 2 y (by omega) hy), ag_n (nn 1 y (by omega) hy)]
    have s1 : aget W (S + 1) = upd (aget w (S + 1)) i (aget w (Q + 1) i) := by
      rw [hW, ag_n m31, ag_n m21, ag_s f5]
    have s2 : aget W (S + 2) = upd (aget w (S + 2)) i (aget w (Q + 2) i) := by
      rw [hW, ag_n m32, ag_s (by rw [ao_a]; exact f6)]
    have s3 : aget W (S + 3) = upd (aget w (S + 3)) i (aget w (Q + 3) i) := by
      rw [hW, ag_z (by rw [zo_a, zo_a]; exact f7)]
    obtain ⟨w', r1, r2, r3, r4, r5, r6, r7⟩ := ih (i + 1) (by omega) W (by rw [hW]; exact sgt_as (sgt_as (sgt_as hS))) (by rw [hW]; exact sgt_as (sgt_as (sgt_as hQ))) (fun j hj => by rw [gQ 3 (by omega)]; exact hr j hj) (fun j hj => by
      rw [gQ 1 (by omega), gQ 2 (by omega), gQ 3 (by omega), s1, s2, s3]
      simp only [updI]
      by_cases q : j = i
      · subst q
        exact ⟨if_pos rfl, if_pos rfl, if_pos rfl⟩
      · simp only [q, if_false]
        exact hg j (by omega))
    refine ⟨w', ?_, fun h => r2 (by rw [hW]; exact ok_a (ok_a (ok_a h))), r3, r4, fun j hj => ?_, fun a a1 a2 a3 => ?_, fun f k => ?_⟩
    · rw [← r1, hW, z89_2]
      simp only [z89_0, z89_1, z89_3, z89_5, z89_8, z89_9, z89_12, z89_13, z89_14, z89_17, z89_18, z89_19, z89_20, z89_21, z89_24, z89_25, z89_26, z89_29, z89_30, z89_31, z89_32, z89_33, z89_36, z89_37, z89_38, z89_41, z89_42, z89_43, z89_44, z89_47, z89_51, z89_52, z89_55, z89_58, Option.bind_some, Option.toList_some, Option.toList_none, List.cons_append, List.nil_append, sc_i, sc_r, sc_l, sc_u, sc_s, List.length_nil, List.length_cons, Nat.reduceAdd, Nat.reduceLeDiff, Nat.zero_le, le4_0, le4_1, le4_2, le4_3, rz0, rz1, rzt, eq_self, fo_f, fo_a, fo_j, co_f, co_a, co_j, ao_f, ao_a, ao_j, zo_f, zo_a, zo_j, jo_f, jo_a, jo_j, al_f, al_a, al_j, fg_a, fg_j, ag_f, ag_j, jg_f, jg_a, fk_f, fk_a, fk_j, fi_a, fi_j, tI_0, tI_n0, if_true, if_false, ne_eq, not_true_eq_false, not_false_eq_true, and_self, Bool.false_eq_true, nI_nge8 hi8, b8 hi8, c8 hi8, fok_of f0 (show 0 < nf 6 by decide), fok_of f0 (show 1 < nf 6 by decide), fok_of f0 (show 2 < nf 6 by decide), fok_of g0 (show 0 < nf 6 by decide), fok_of g0 (show 1 < nf 6 by decide), fok_of g0 (show 2 < nf 6 by decide), f1, f2, f3, f5, f6, f7, f8, f9, f10, g1, g2, g3, g5, g6, g7, g8, g9, g10, ag_n m12, ag_n m13, ag_n m23, ag_n (nn 1 2 (by omega) (by omega)), ag_n (nn 1 3 (by omega) (by omega)), ag_n (nn 2 3 (by omega) (by omega)), and1 (hr i hi8), nI_1]
    · obtain ⟨p1, p2, p3⟩ := r5 j hj
      rw [gQ 1 (by omega)] at p1
      rw [gQ 2 (by omega)] at p2
      rw [gQ 3 (by omega)] at p3
      exact ⟨p1, p2, p3⟩
    · rw [r6 a a1 a2 a3, hW, ag_n (fun e => a3 e.symm), ag_n (fun e => a2 e.symm), ag_n (fun e => a1 e.symm)]
    · rw [r7, hW, fi_a, fi_a, fi_a]
theorem x_scp {X : Scr} {w : AW} {S Q : Nat} (hd : S + 3 < Q ∨ Q + 3 < S) (hS : sgtOK w S) (hQ : sgtOK w Q) (hr : ∀ j, j < 8 → rng (aget w (Q + 3) j) 1) (hok : ∀ (w1 : AW) (x : Int32), OK w1 → OK (fset w1 S 3 (.int x))) : ∃ w', Z X 89 0 [.ref S, .ref Q, uns] [] w = some (none, w') ∧ (OK w → OK w') ∧ (∀ j, j < 8 → aget w' (S + 1) j = aget w (Q + 1) j ∧ aget w' (S + 2) j = aget w (Q + 2) j ∧ aget w' (S + 3) j = aget w (Q + 3) j) ∧ sgW w w' S ∧ fI w' S 3 = fI w Q 3 ∧ (∀ f k, ¬ (S = f ∧ 3 = k) → fI w' f k = fI w f k) := by
  obtain ⟨w1, r1, r2, r3, r4, r5, r6, r7⟩ := x_scpL (X := X) hd 8 0 rfl w hS hQ hr (fun j hj => absurd hj (Nat.not_lt_zero j))
  have z0 : nI 0 = 0 := rfl
  rw [z0] at r1
  refine ⟨fset w1 S 3 (.int (fI w1 Q 3)), ?_, fun h => hok _ _ (r2 h), fun j hj => ?_, fun a a1 a2 a3 => ?_, ?_, fun f k hk => ?_⟩
  · simp only [z89_0, z89_1, z89_3, z89_5, z89_8, z89_9, z89_12, z89_13, z89_14, z89_17, z89_18, z89_19, z89_20, z89_21, z89_24, z89_25, z89_26, z89_29, z89_30, z89_31, z89_32, z89_33, z89_36, z89_37, z89_38, z89_41, z89_42, z89_43, z89_44, z89_47, z89_50, z89_51, z89_52, z89_55, z89_58, Option.bind_some, Option.toList_some, Option.toList_none, List.cons_append, List.nil_append, sc_i, sc_r, sc_l, sc_u, sc_s, List.length_nil, List.length_cons, Nat.reduceAdd, Nat.reduceLeDiff, Nat.zero_le, le4_0, le4_1, le4_2, le4_3, rz0, rz1, rzt, eq_self, r1, fok_of r3.1 (show 3 < nf 6 by decide), fok_of r4.1 (show 3 < nf 6 by decide), r4.2.2.2.2.1]
  · rw [ag_f, ag_f, ag_f]; exact r5 j hj
  · rw [ag_f]; exact r6 a a1 a2 a3
  · rw [fi_s (fokk_of r3.1 (show 3 < nf 6 by decide)), r7]
  · rw [fi_n hk, r7]
