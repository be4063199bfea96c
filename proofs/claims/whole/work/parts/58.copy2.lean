/-! tasks and sights written over others -/
def cp6 (f g : Nat → Int32) : Nat → Int32 := va_cpy f g 0 0 6
theorem cp6_in {f g : Nat → Int32} {i : Nat} (h : i < 6) : cp6 f g i = f i := by
  unfold cp6 va_cpy
  rw [if_pos ⟨Nat.zero_le i, by omega⟩]
  congr 1
  omega
def tskOK (w : AW) (T : Nat) : Prop := obj w T 7 = true ∧ fget w T 0 = .ref (T + 1) ∧ fget w T 1 = .ref (T + 2) ∧ fget w T 2 = .ref (T + 3) ∧ aok w (T + 1) = true ∧ aok w (T + 2) = true ∧ aok w (T + 3) = true ∧ alen w (T + 1) = 6 ∧ alen w (T + 2) = 6 ∧ alen w (T + 3) = 6
theorem ok_tsk {w : AW} (h : OK w) {T : Nat} (hT : T = 19 ∨ T = 42 ∨ T = 56) : tskOK w T := by
  rcases hT with rfl | rfl | rfl
  · exact ⟨oo19 h, og19_0 h, og19_1 h, og19_2 h, oa20 h, oa21 h, oa22 h, ol20 h, ol21 h, ol22 h⟩
  · exact ⟨oo42 h, og42_0 h, og42_1 h, og42_2 h, oa43 h, oa44 h, oa45 h, ol43 h, ol44 h, ol45 h⟩
  · exact ⟨oo56 h, og56_0 h, og56_1 h, og56_2 h, oa57 h, oa58 h, oa59 h, ol57 h, ol58 h, ol59 h⟩
def tcp (w : AW) (F G : Nat) : AW := aset (aset (aset w (F + 1) (cp6 (aget w (G + 1)) (aget w (F + 1)))) (F + 2) (cp6 (aget w (G + 2)) (aget w (F + 2)))) (F + 3) (cp6 (aget w (G + 3)) (aget w (F + 3)))
theorem x_tcp {X : Scr} {w : AW} {F G : Nat} (hF : tskOK w F) (hG : tskOK w G) (hd : F + 3 < G ∨ G + 3 < F) : Z X 88 0 [.ref F, .ref G] [] w = some (none, tcp w F G) := by
  obtain ⟨f0, f1, f2, f3, f4, f5, f6, f7, f8, f9⟩ := hF
  obtain ⟨g0, g1, g2, g3, g4, g5, g6, g7, g8, g9⟩ := hG
  have m12 : ¬ F + 1 = F + 2 := by omega
  have m13 : ¬ F + 1 = F + 3 := by omega
  have m23 : ¬ F + 2 = F + 3 := by omega
  have n12 : ¬ F + 1 = G + 2 := by omega
  have n13 : ¬ F + 1 = G + 3 := by omega
  have n23 : ¬ F + 2 = G + 3 := by omega
  have z0 : 0 ≤ (0 : Int32).toInt := by decide
  have z6 : 0 ≤ (6 : Int32).toInt := by decide
  have k0 : (0 : Int32).toNatClampNeg = 0 := rfl
  have k6 : (6 : Int32).toNatClampNeg = 6 := rfl
  have k66 : 6 ≤ 6 := Nat.le_refl 6
  simp only [z88_0, z88_1, z88_4, z88_5, z88_6, z88_9, z88_10, z88_12, z88_15, z88_16, z88_19, z88_20, z88_21, z88_24, z88_25, z88_27, z88_30, z88_31, z88_34, z88_35, z88_36, z88_39, z88_40, z88_42, z88_45, Option.bind_some, Option.toList_some, Option.toList_none, List.cons_append, List.nil_append, sc_i, sc_r, sc_l, sc_u, sc_s, List.length_nil, List.length_cons, Nat.reduceAdd, Nat.reduceLeDiff, Nat.zero_le, le4_0, le4_1, le4_2, le4_3, rz0, rz1, rzt, eq_self, fo_f, fo_a, fo_j, co_f, co_a, co_j, ao_f, ao_a, ao_j, zo_f, zo_a, zo_j, jo_f, jo_a, jo_j, al_f, al_a, al_j, fg_a, fg_j, ag_f, ag_j, jg_f, jg_a, fk_f, fk_a, fk_j, fi_a, fi_j, fok_of f0 (show 0 < nf 7 by decide), fok_of f0 (show 1 < nf 7 by decide), fok_of f0 (show 2 < nf 7 by decide), fok_of g0 (show 0 < nf 7 by decide), fok_of g0 (show 1 < nf 7 by decide), fok_of g0 (show 2 < nf 7 by decide), f1, f2, f3, f4, f5, f6, f7, f8, f9, g1, g2, g3, g4, g5, g6, g7, g8, g9, z0, z6, k0, k6, Nat.zero_add, k66, ag_n m12, ag_n m13, ag_n m23, ag_n n12, ag_n n13, ag_n n23]
  rfl
def sgtOK (w : AW) (S : Nat) : Prop := obj w S 6 = true ∧ fget w S 0 = .ref (S + 1) ∧ fget w S 1 = .ref (S + 2) ∧ fget w S 2 = .ref (S + 3) ∧ fget w S 3 = .int (fI w S 3) ∧ aok w (S + 1) = true ∧ aok w (S + 2) = true ∧ zok w (S + 3) = true ∧ alen w (S + 1) = 8 ∧ alen w (S + 2) = 8 ∧ alen w (S + 3) = 8
theorem ok_sgt {w : AW} (h : OK w) {S : Nat} (hS : S = 23 ∨ S = 46 ∨ S = 60) : sgtOK w S := by
  rcases hS with rfl | rfl | rfl
  · exact ⟨oo23 h, og23_0 h, og23_1 h, og23_2 h, og23_3 h, oa24 h, oa25 h, oa26 h, ol24 h, ol25 h, ol26 h⟩
  · exact ⟨oo46 h, og46_0 h, og46_1 h, og46_2 h, og46_3 h, oa47 h, oa48 h, oa49 h, ol47 h, ol48 h, ol49 h⟩
  · exact ⟨oo60 h, og60_0 h, og60_1 h, og60_2 h, og60_3 h, oa61 h, oa62 h, oa63 h, ol61 h, ol62 h, ol63 h⟩
