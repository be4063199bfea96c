/-! Family: one object and its four rows, at F .. F + 4 -/
def famOK (w : AW) (F : Nat) : Prop := obj w F 1 = true ∧ fget w F 0 = .ref (F + 1) ∧ fget w F 1 = .ref (F + 2) ∧ fget w F 2 = .ref (F + 3) ∧ fget w F 3 = .ref (F + 4) ∧ fget w F 4 = .int (fI w F 4) ∧ fget w F 5 = .int (fI w F 5) ∧ fget w F 6 = .int (fI w F 6)
  ∧ aok w (F + 1) = true ∧ aok w (F + 2) = true ∧ aok w (F + 3) = true ∧ aok w (F + 4) = true ∧ alen w (F + 1) = 8 ∧ alen w (F + 2) = 8 ∧ alen w (F + 3) = 8 ∧ alen w (F + 4) = 8
theorem inB8 {k : Int32} (h0 : 0 ≤ k) (h8 : k < 8) : inB k 8 = true := by
  rw [Int32.le_iff_toInt_le, show (0 : Int32).toInt = 0 from rfl] at h0
  rw [Int32.lt_iff_toInt_lt, show (8 : Int32).toInt = 8 from rfl] at h8
  simp only [inB, Bool.and_eq_true, decide_eq_true_eq]
  exact ⟨h0, h8⟩
theorem le30 {k : Int32} (h8 : k < 8) : k ≤ 30 := by
  rw [Int32.lt_iff_toInt_lt, show (8 : Int32).toInt = 8 from rfl] at h8
  rw [Int32.le_iff_toInt_le, show (30 : Int32).toInt = 30 from rfl]
  omega
theorem x_lives {X : Scr} {w : AW} {F : Nat} {k : Int32} (h : famOK w F) : Z X 18 0 [.ref F, .int k] [] w = some (some (.int (tI (0 ≤ k ∧ k < 8 ∧ (fI w F 4 >>> (k &&& 31)) &&& 1 = 1))), w) := by
  obtain ⟨o, f0, f1, f2, f3, f4, f5, f6, a1, a2, a3, a4, l1, l2, l3, l4⟩ := h
  have hf := fok_of (k := 4) o (by decide)
  simp only [z18_0, z18_1, z18_4, z18_5, z18_7, z18_10, z18_11, z18_14, z18_15, z18_16, z18_17, z18_18, z18_19, z18_22, z18_23, z18_26, z18_27, Option.bind_some, Option.toList_some, Option.toList_none, List.cons_append, List.nil_append, sc_i, sc_r, sc_l, sc_u, sc_s, List.length_nil, List.length_cons, Nat.reduceAdd, Nat.reduceLeDiff, Nat.zero_le, le4_0, le4_1, le4_2, le4_3, rz0, rz1, rzt, eq_self, hf, f4]
  by_cases h1 : k < 0
  · rw [if_pos h1, tI_f (fun q => i32_nle.mpr h1 q.1)]
  · rw [if_neg h1]
    by_cases h2 : k ≥ 8
    · rw [if_pos h2, tI_f (fun q => i32_nlt.mpr h2 q.2.1)]
    · rw [if_neg h2]
      by_cases h3 : (fI w F 4 >>> (k &&& 31)) &&& 1 = 1
      · rw [if_neg (fun q => q h3), tI_t ⟨i32_nlt.mp h1, i32_nle.mp h2, h3⟩]
      · rw [if_pos h3, tI_f (fun q => h3 q.2.2)]
