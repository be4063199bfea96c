/-! one family written over another -/
def cp8 (f g : Nat → Int32) : Nat → Int32 := va_cpy f g 0 0 8
theorem cp8_in {f g : Nat → Int32} {i : Nat} (h : i < 8) : cp8 f g i = f i := by
  unfold cp8 va_cpy
  rw [if_pos ⟨Nat.zero_le i, by omega⟩]
  congr 1
  omega
def fcp (w : AW) (F G : Nat) : AW := fset (fset (fset (aset (aset (aset (aset w (F + 1) (cp8 (aget w (G + 1)) (aget w (F + 1)))) (F + 2) (cp8 (aget w (G + 2)) (aget w (F + 2)))) (F + 3) (cp8 (aget w (G + 3)) (aget w (F + 3)))) (F + 4) (cp8 (aget w (G + 4)) (aget w (F + 4)))) F 4 (.int (fI w G 4))) F 5 (.int (fI w G 5))) F 6 (.int (fI w G 6))
theorem x_fcp {X : Scr} {w : AW} {F G : Nat} (hF : famOK w F) (hG : famOK w G) (hd : F + 4 < G ∨ G + 4 < F) : Z X 32 0 [.ref F, .ref G] [] w = some (none, fcp w F G) := by
  have n0 : ¬ F = G := by omega
  have m12 : ¬ F + 1 = F + 2 := by omega
  have m13 : ¬ F + 1 = F + 3 := by omega
  have m14 : ¬ F + 1 = F + 4 := by omega
  have m23 : ¬ F + 2 = F + 3 := by omega
  have m24 : ¬ F + 2 = F + 4 := by omega
  have m34 : ¬ F + 3 = F + 4 := by omega
  have n12 : ¬ F + 1 = G + 2 := by omega
  have n13 : ¬ F + 1 = G + 3 := by omega
  have n14 : ¬ F + 1 = G + 4 := by omega
  have n23 : ¬ F + 2 = G + 3 := by omega
  have n24 : ¬ F + 2 = G + 4 := by omega
  have n34 : ¬ F + 3 = G + 4 := by omega
  have z0 : 0 ≤ (0 : Int32).toInt := by decide
  have z8 : 0 ≤ (8 : Int32).toInt := by decide
  have k0 : (0 : Int32).toNatClampNeg = 0 := rfl
  have k8 : (8 : Int32).toNatClampNeg = 8 := rfl
  have k88 : 8 ≤ 8 := Nat.le_refl 8
  simp only [z32_0, z32_1, z32_4, z32_5, z32_6, z32_9, z32_10, z32_12, z32_15, z32_16, z32_19, z32_20, z32_21, z32_24, z32_25, z32_27, z32_30, z32_31, z32_34, z32_35, z32_36, z32_39, z32_40, z32_42, z32_45, z32_46, z32_49, z32_50, z32_51, z32_54, z32_55, z32_57, z32_60, z32_61, z32_62, z32_65, z32_68, z32_69, z32_70, z32_73, z32_76, z32_77, z32_78, z32_81, z32_84, Option.bind_some, Option.toList_some, Option.toList_none, List.cons_append, List.nil_append, sc_i, sc_r, sc_l, sc_u, sc_s, List.length_nil, List.length_cons, Nat.reduceAdd, Nat.reduceLeDiff, Nat.zero_le, le4_0, le4_1, le4_2, le4_3, rz0, rz1, rzt, eq_self, fo_f, fo_a, fo_j, co_f, co_a, co_j, ao_f, ao_a, ao_j, zo_f, zo_a, zo_j, jo_f, jo_a, jo_j, al_f, al_a, al_j, fg_a, fg_j, ag_f, ag_j, jg_f, jg_a, fk_f, fk_a, fk_j, fi_a, fi_j, fam_o hF (show 0 < 7 by decide), fam_o hF (show 1 < 7 by decide), fam_o hF (show 2 < 7 by decide), fam_o hF (show 3 < 7 by decide), fam_o hF (show 4 < 7 by decide), fam_o hF (show 5 < 7 by decide), fam_o hF (show 6 < 7 by decide), fam_o hG (show 0 < 7 by decide), fam_o hG (show 1 < 7 by decide), fam_o hG (show 2 < 7 by decide), fam_o hG (show 3 < 7 by decide), fam_o hG (show 4 < 7 by decide), fam_o hG (show 5 < 7 by decide), fam_o hG (show 6 < 7 by decide), fam_0 hF, fam_1 hF, fam_2 hF, fam_3 hF, fam_0 hG, fam_1 hG, fam_2 hG, fam_3 hG, fam_4 hG, fam_5 hG, fam_6 hG, fam_a1 hF, fam_a2 hF, fam_a3 hF, fam_a4 hF, fam_a1 hG, fam_a2 hG, fam_a3 hG, fam_a4 hG, fam_l1 hF, fam_l2 hF, fam_l3 hF, fam_l4 hF, fam_l1 hG, fam_l2 hG, fam_l3 hG, fam_l4 hG, z0, z8, k0, k8, Nat.zero_add, k88, ag_n m12, ag_n m13, ag_n m14, ag_n m23, ag_n m24, ag_n m34, ag_n n12, ag_n n13, ag_n n14, ag_n n23, ag_n n24, ag_n n34, fg_n (show ¬ (F = G ∧ 4 = 5) by omega), fg_n (show ¬ (F = G ∧ 4 = 6) by omega), fg_n (show ¬ (F = G ∧ 5 = 6) by omega)]
  rfl
