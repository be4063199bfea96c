/-! Counts of bits; tie -/
def us (x y : Int32) : Int32 := (x.toUInt32 >>> (y.toUInt32 &&& Int32.toUInt32 31)).toInt32
def bc1 (x : Int32) : Int32 := x - (us x 1 &&& 1431655765)
def bc2 (x : Int32) : Int32 := (x &&& 858993459) + (us x 2 &&& 858993459)
def bc3 (x : Int32) : Int32 := (x + us x 4) &&& 252645135
def bc4 (x : Int32) : Int32 := x + us x 8
def bc5 (x : Int32) : Int32 := x + us x 16
def bcF (x : Int32) : Int32 := bc5 (bc4 (bc3 (bc2 (bc1 x)))) &&& 63
theorem x_bitc {X : Scr} {w : AW} {x : Int32} : Z X 16 0 [.int x] [] w = some (some (.int (bcF x)), w) := by
  have e : ∀ y : Int32, Z X 16 0 [.int y] [] w = Z X 16 10 [.int (bc1 y)] [] w := fun y => by
    rw [z16_0, z16_1, z16_2, z16_3, z16_4, z16_7, z16_8, z16_9 sc_i]; rfl
  have e2 : ∀ y : Int32, Z X 16 10 [.int y] [] w = Z X 16 24 [.int (bc2 y)] [] w := fun y => by
    rw [z16_10, z16_11, z16_14, z16_15, z16_16, z16_17, z16_18, z16_21, z16_22, z16_23 sc_i]; rfl
  have e3 : ∀ y : Int32, Z X 16 24 [.int y] [] w = Z X 16 34 [.int (bc3 y)] [] w := fun y => by
    rw [z16_24, z16_25, z16_26, z16_27, z16_28, z16_29, z16_32, z16_33 sc_i]; rfl
  have e4 : ∀ y : Int32, Z X 16 34 [.int y] [] w = Z X 16 41 [.int (bc4 y)] [] w := fun y => by
    rw [z16_34, z16_35, z16_36, z16_38, z16_39, z16_40 sc_i]; rfl
  have e5 : ∀ y : Int32, Z X 16 41 [.int y] [] w = Z X 16 48 [.int (bc5 y)] [] w := fun y => by
    rw [z16_41, z16_42, z16_43, z16_45, z16_46, z16_47 sc_i]; rfl
  rw [e, e2, e3, e4, e5, z16_48, z16_49, z16_51, z16_52]
  rfl
def onesF : Nat → Int32 → Int32 → Int32
  | 0, n, _ => n
  | k + 1, n, l => if l = 0 then n else onesF k (n + 1) (l &&& (l - 1))
def zeroIn : Nat → Int32 → Bool
  | 0, l => decide (l = 0)
  | k + 1, l => decide (l = 0) || zeroIn k (l &&& (l - 1))
theorem x_onesL {X : Scr} {w : AW} {x : Int32} : ∀ (k : Nat) (n l : Int32), zeroIn k l = true → Z X 101 4 [.int x, .int n, .int l] [] w = some (some (.int (onesF k n l)), w) := by
  intro k
  induction k with
  | zero =>
    intro n l h
    have hl : l = 0 := by simpa [zeroIn] using h
    rw [z101_4]
    simp only [z101_0, z101_1, z101_2, z101_3, z101_5, z101_8, z101_11, z101_12, z101_13, z101_14, z101_15, z101_16, z101_17, z101_20, z101_21, Option.bind_some, Option.toList_some, Option.toList_none, List.cons_append, List.nil_append, sc_i, sc_r, sc_l, sc_u, sc_s, List.length_nil, List.length_cons, Nat.reduceAdd, Nat.reduceLeDiff, Nat.zero_le, le4_0, le4_1, le4_2, le4_3, rz0, rz1, rzt, eq_self, tI_0, tI_n0, if_true, if_false, ne_eq, not_true_eq_false, not_false_eq_true, and_self, Bool.false_eq_true, hl]
    rfl
  | succ k ih =>
    intro n l h
    rw [z101_4]
    by_cases hl : l = 0
    · simp only [z101_0, z101_1, z101_2, z101_3, z101_5, z101_8, z101_11, z101_12, z101_13, z101_14, z101_15, z101_16, z101_17, z101_20, z101_21, Option.bind_some, Option.toList_some, Option.toList_none, List.cons_append, List.nil_append, sc_i, sc_r, sc_l, sc_u, sc_s, List.length_nil, List.length_cons, Nat.reduceAdd, Nat.reduceLeDiff, Nat.zero_le, le4_0, le4_1, le4_2, le4_3, rz0, rz1, rzt, eq_self, tI_0, tI_n0, if_true, if_false, ne_eq, not_true_eq_false, not_false_eq_true, and_self, Bool.false_eq_true, hl]
      rfl
    · have h2 : zeroIn k (l &&& (l - 1)) = true := by simpa [zeroIn, hl] using h
      simp only [z101_0, z101_1, z101_2, z101_3, z101_5, z101_8, z101_11, z101_12, z101_13, z101_14, z101_15, z101_16, z101_17, z101_20, z101_21, Option.bind_some, Option.toList_some, Option.toList_none, List.cons_append, List.nil_append, sc_i, sc_r, sc_l, sc_u, sc_s, List.length_nil, List.length_cons, Nat.reduceAdd, Nat.reduceLeDiff, Nat.zero_le, le4_0, le4_1, le4_2, le4_3, rz0, rz1, rzt, eq_self, tI_0, tI_n0, if_true, if_false, ne_eq, not_true_eq_false, not_false_eq_true, and_self, Bool.false_eq_true, hl, ih _ _ h2]
      rw [onesF, if_neg hl]
theorem ones_ok : ∀ m, m < 1024 → zeroIn 10 (nI m) = true ∧ onesF 10 0 (nI m) = bcF (nI m) := by decide +kernel
theorem x_ones {X : Scr} {w : AW} {m : Nat} (hm : m < 1024) : Z X 101 0 [.int (nI m), uns, uns] [] w = some (some (.int (bcF (nI m))), w) := by
  have h := x_onesL (X := X) (w := w) (x := nI m) 10 0 (nI m) (ones_ok m hm).1
  rw [(ones_ok m hm).2] at h
  simp only [z101_0, z101_1, z101_2, z101_3, z101_5, z101_8, z101_11, z101_12, z101_13, z101_14, z101_15, z101_16, z101_17, z101_20, z101_21, Option.bind_some, Option.toList_some, Option.toList_none, List.cons_append, List.nil_append, sc_i, sc_r, sc_l, sc_u, sc_s, List.length_nil, List.length_cons, Nat.reduceAdd, Nat.reduceLeDiff, Nat.zero_le, le4_0, le4_1, le4_2, le4_3, rz0, rz1, rzt, eq_self, h]
/-- a tie set or taken away -/
def tnew (c x : Int32) (j : Nat) : Int32 := if c = 0 then x &&& (((1 : Int32) <<< (nI j &&& 31)) ^^^ (-1)) else x ||| ((1 : Int32) <<< (nI j &&& 31))
theorem land_k : ∀ l, l < 256 → ∀ j, j < 8 → nI l &&& (((1 : Int32) <<< (nI j &&& 31)) ^^^ (-1)) = nI (l - if Nat.testBit l j then 2 ^ j else 0) := by decide +kernel
theorem tnew_r {c x : Int32} {j : Nat} (h : rng x 255) (hj : j < 8) : rng (tnew c x j) 255 := by
  obtain ⟨l, hl, rfl⟩ := h
  unfold tnew
  by_cases hc : c = 0
  · rw [if_pos hc, land_k l (by omega) j hj]
    exact ⟨_, by omega, rfl⟩
  · rw [if_neg hc, (lor_k l (by omega) j hj).1]
    exact ⟨_, by have := (lor_k l (by omega) j hj).2; omega, rfl⟩
theorem x_mwith {X : Scr} {w : AW} {x c : Int32} {j : Nat} : Z X 100 0 [.int x, .int (nI j), .int c] [] w = some (some (.int (tnew c x j)), w) := by
  simp only [z100_0, z100_1, z100_4, z100_5, z100_6, z100_7, z100_8, z100_9, z100_12, z100_13, z100_14, z100_15, z100_16, z100_17, z100_18, z100_19, Option.bind_some, Option.toList_some, Option.toList_none, List.cons_append, List.nil_append, sc_i, sc_r, sc_l, sc_u, sc_s, List.length_nil, List.length_cons, Nat.reduceAdd, Nat.reduceLeDiff, Nat.zero_le, le4_0, le4_1, le4_2, le4_3, rz0, rz1, rzt, eq_self]
  unfold tnew
  by_cases hc : c = 0 <;> simp [hc]
def tset (c : Int32) (t : Nat → Int32) (i j : Nat) : Nat → Int32 := upd (upd t i (tnew c (t i) j)) j (tnew c (upd t i (tnew c (t i) j) j) i)
theorem isK {j : Nat} (hj : j < 8) : 0 ≤ nI j ∧ nI j < 8 := ⟨nI_pos' (by omega), i32_nle.mp (nI_nge8 hj)⟩
theorem x_setTie {X : Scr} {w : AW} {F i j : Nat} {c : Int32} (h : famOK w F) (hi : i < 8) (hj : j < 8) : Z X 14 0 [.ref F, .int (nI i), .int (nI j), .int c] [] w = some (none, aset w (F + 4) (tset c (aget w (F + 4)) i j)) := by
  by_cases hc : c = 0
  · simp only [z14_0, z14_1, z14_4, z14_7, z14_8, z14_11, z14_14, z14_15, z14_16, z14_19, z14_20, z14_23, z14_24, z14_25, z14_26, z14_27, z14_28, z14_29, z14_30, z14_31, z14_32, z14_35, z14_36, z14_37, z14_38, z14_39, z14_40, z14_41, z14_42, z14_43, z14_46, z14_47, z14_50, z14_51, z14_52, z14_53, z14_54, z14_55, z14_56, z14_57, z14_58, z14_59, z14_60, z14_61, z14_64, z14_65, z14_66, z14_67, z14_68, z14_69, z14_70, z14_71, z14_72, z14_73, z14_74, Option.bind_some, Option.toList_some, Option.toList_none, List.cons_append, List.nil_append, sc_i, sc_r, sc_l, sc_u, sc_s, List.length_nil, List.length_cons, Nat.reduceAdd, Nat.reduceLeDiff, Nat.zero_le, le4_0, le4_1, le4_2, le4_3, rz0, rz1, rzt, eq_self, fo_f, fo_a, fo_j, co_f, co_a, co_j, ao_f, ao_a, ao_j, zo_f, zo_a, zo_j, jo_f, jo_a, jo_j, al_f, al_a, al_j, fg_a, fg_j, ag_f, ag_j, jg_f, jg_a, fk_f, fk_a, fk_j, fi_a, fi_j, tI_0, tI_n0, if_true, if_false, ne_eq, not_true_eq_false, not_false_eq_true, and_self, Bool.false_eq_true, x_isKin, isK hi, isK hj, hc, fam_o h (show 3 < 7 by decide), fam_3 h, fam_a4 h, fam_l4 h, b8 hi, b8 hj, c8 hi, c8 hj, ag_s, as_s]
    simp only [tset, tnew, if_true]
  · simp only [z14_0, z14_1, z14_4, z14_7, z14_8, z14_11, z14_14, z14_15, z14_16, z14_19, z14_20, z14_23, z14_24, z14_25, z14_26, z14_27, z14_28, z14_29, z14_30, z14_31, z14_32, z14_35, z14_36, z14_37, z14_38, z14_39, z14_40, z14_41, z14_42, z14_43, z14_46, z14_47, z14_50, z14_51, z14_52, z14_53, z14_54, z14_55, z14_56, z14_57, z14_58, z14_59, z14_60, z14_61, z14_64, z14_65, z14_66, z14_67, z14_68, z14_69, z14_70, z14_71, z14_72, z14_73, z14_74, Option.bind_some, Option.toList_some, Option.toList_none, List.cons_append, List.nil_append, sc_i, sc_r, sc_l, sc_u, sc_s, List.length_nil, List.length_cons, Nat.reduceAdd, Nat.reduceLeDiff, Nat.zero_le, le4_0, le4_1, le4_2, le4_3, rz0, rz1, rzt, eq_self, fo_f, fo_a, fo_j, co_f, co_a, co_j, ao_f, ao_a, ao_j, zo_f, zo_a, zo_j, jo_f, jo_a, jo_j, al_f, al_a, al_j, fg_a, fg_j, ag_f, ag_j, jg_f, jg_a, fk_f, fk_a, fk_j, fi_a, fi_j, tI_0, tI_n0, if_true, if_false, ne_eq, not_true_eq_false, not_false_eq_true, and_self, Bool.false_eq_true, x_isKin, isK hi, isK hj, hc, fam_o h (show 3 < 7 by decide), fam_3 h, fam_a4 h, fam_l4 h, b8 hi, b8 hj, c8 hi, c8 hj, ag_s, as_s]
    simp only [tset, tnew, hc, if_false]
/-- the sum of g over the last n places of 8 -/
def sumC (g : Nat → Int32) : Nat → Int32 → Int32
  | 0, s => s
  | n + 1, s => sumC g n (s + g (7 - n))
theorem sumC_c {g g' : Nat → Int32} (h : ∀ i, i < 8 → g i = g' i) : ∀ (n : Nat) (s : Int32), sumC g n s = sumC g' n s := by
  intro n
  induction n with
  | zero => intro s; rfl
  | succ n ih => intro s; rw [sumC, sumC, h _ (by omega), ih]
theorem x_cntL {X : Scr} {w : AW} {F : Nat} (h : famOK w F) : ∀ (n : Nat), n ≤ 8 → ∀ (s : Int32), Z X 15 4 [.ref F, .int s, .int (nI (8 - n))] [] w = some (some (.int (sumC (fun i => bcF (aget w (F + 4) i)) n s / 2)), w) := by
  intro n
  induction n with
  | zero =>
    intro hn s
    have e : nI (8 - 0) ≥ 8 := by decide
    have e2 : ¬ (2 : Int32) = 0 := by decide
    rw [z15_4]
    simp only [z15_0, z15_1, z15_2, z15_3, z15_5, z15_7, z15_10, z15_11, z15_12, z15_15, z15_16, z15_17, z15_20, z15_21, z15_22, z15_25, z15_28, z15_29, z15_30, z15_31, Option.bind_some, Option.toList_some, Option.toList_none, List.cons_append, List.nil_append, sc_i, sc_r, sc_l, sc_u, sc_s, List.length_nil, List.length_cons, Nat.reduceAdd, Nat.reduceLeDiff, Nat.zero_le, le4_0, le4_1, le4_2, le4_3, rz0, rz1, rzt, eq_self, e, tI_0, tI_n0, if_true, if_false, ne_eq, not_true_eq_false, not_false_eq_true, and_self, Bool.false_eq_true, e2]
    rfl
  | succ n ih =>
    intro hn s
    have hi : 8 - (n + 1) = 7 - n := by omega
    have hi8 : 7 - n < 8 := by omega
    have hnx : nI (7 - n) + 1 = nI (8 - n) := by rw [nI_1]; congr 1; omega
    rw [hi, z15_4]
    simp only [z15_0, z15_1, z15_2, z15_3, z15_5, z15_7, z15_10, z15_11, z15_12, z15_15, z15_16, z15_17, z15_20, z15_21, z15_22, z15_25, z15_28, z15_29, z15_30, z15_31, Option.bind_some, Option.toList_some, Option.toList_none, List.cons_append, List.nil_append, sc_i, sc_r, sc_l, sc_u, sc_s, List.length_nil, List.length_cons, Nat.reduceAdd, Nat.reduceLeDiff, Nat.zero_le, le4_0, le4_1, le4_2, le4_3, rz0, rz1, rzt, eq_self, fo_f, fo_a, fo_j, co_f, co_a, co_j, ao_f, ao_a, ao_j, zo_f, zo_a, zo_j, jo_f, jo_a, jo_j, al_f, al_a, al_j, fg_a, fg_j, ag_f, ag_j, jg_f, jg_a, fk_f, fk_a, fk_j, fi_a, fi_j, tI_0, tI_n0, if_true, if_false, ne_eq, not_true_eq_false, not_false_eq_true, and_self, Bool.false_eq_true, nI_nge8 hi8, x_bitc, fam_o h (show 3 < 7 by decide), fam_3 h, fam_a4 h, fam_l4 h, b8 hi8, c8 hi8, hnx, ih (by omega)]
    rfl
theorem x_cnt {X : Scr} {w : AW} {F : Nat} (h : famOK w F) : Z X 15 0 [.ref F, uns, uns] [] w = some (some (.int (sumC (fun i => bcF (aget w (F + 4) i)) 8 0 / 2)), w) := by
  have h1 := x_cntL (X := X) h 8 (Nat.le_refl 8) 0
  have e : nI (8 - 8) = 0 := rfl
  rw [e] at h1
  simp only [z15_0, z15_1, z15_2, z15_3, z15_5, z15_7, z15_10, z15_11, z15_12, z15_15, z15_16, z15_17, z15_20, z15_21, z15_22, z15_25, z15_28, z15_29, z15_30, z15_31, Option.bind_some, Option.toList_some, Option.toList_none, List.cons_append, List.nil_append, sc_i, sc_r, sc_l, sc_u, sc_s, List.length_nil, List.length_cons, Nat.reduceAdd, Nat.reduceLeDiff, Nat.zero_le, le4_0, le4_1, le4_2, le4_3, rz0, rz1, rzt, eq_self, h1]
theorem x_mtieL {X : Scr} {w : AW} {a b c : Int32} (h : OK w) (hr : ∀ i, i < 8 → rng (aget w 68 i) 255) : ∀ (n : Nat), n ≤ 8 → ∀ (s : Int32), Z X 99 61 [.ref 64, .int a, .int b, .int c, .int s, .int (nI (8 - n))] [] w = some (some (.int (sumC (fun i => bcF (aget w 68 i)) n s / 2)), w) := by
  intro n
  induction n with
  | zero =>
    intro hn s
    have e : nI (8 - 0) ≥ 8 := by decide
    have e2 : ¬ (2 : Int32) = 0 := by decide
    rw [z99_61]
    simp only [z99_0, z99_1, z99_4, z99_7, z99_8, z99_11, z99_14, z99_15, z99_16, z99_19, z99_20, z99_21, z99_22, z99_25, z99_26, z99_27, z99_30, z99_31, z99_32, z99_33, z99_34, z99_37, z99_38, z99_39, z99_42, z99_43, z99_44, z99_47, z99_48, z99_49, z99_50, z99_51, z99_54, z99_55, z99_56, z99_58, z99_59, z99_63, z99_65, z99_68, z99_70, z99_71, z99_74, z99_76, z99_77, z99_80, z99_81, z99_83, z99_86, z99_89, z99_91, z99_92, z99_93, Option.bind_some, Option.toList_some, Option.toList_none, List.cons_append, List.nil_append, sc_i, sc_r, sc_l, sc_u, sc_s, List.length_nil, List.length_cons, Nat.reduceAdd, Nat.reduceLeDiff, Nat.zero_le, le4_0, le4_1, le4_2, le4_3, rz0, rz1, rzt, eq_self, e, tI_0, tI_n0, if_true, if_false, ne_eq, not_true_eq_false, not_false_eq_true, and_self, Bool.false_eq_true, e2]
    rfl
  | succ n ih =>
    intro hn s
    have hi : 8 - (n + 1) = 7 - n := by omega
    have hi8 : 7 - n < 8 := by omega
    have hnx : nI (7 - n) + 1 = nI (8 - n) := by rw [nI_1]; congr 1; omega
    obtain ⟨t, ht, hte⟩ := hr (7 - n) hi8
    rw [hi, z99_61]
    simp only [z99_0, z99_1, z99_4, z99_7, z99_8, z99_11, z99_14, z99_15, z99_16, z99_19, z99_20, z99_21, z99_22, z99_25, z99_26, z99_27, z99_30, z99_31, z99_32, z99_33, z99_34, z99_37, z99_38, z99_39, z99_42, z99_43, z99_44, z99_47, z99_48, z99_49, z99_50, z99_51, z99_54, z99_55, z99_56, z99_58, z99_59, z99_63, z99_65, z99_68, z99_70, z99_71, z99_74, z99_76, z99_77, z99_80, z99_81, z99_83, z99_86, z99_89, z99_91, z99_92, z99_93, Option.bind_some, Option.toList_some, Option.toList_none, List.cons_append, List.nil_append, sc_i, sc_r, sc_l, sc_u, sc_s, List.length_nil, List.length_cons, Nat.reduceAdd, Nat.reduceLeDiff, Nat.zero_le, le4_0, le4_1, le4_2, le4_3, rz0, rz1, rzt, eq_self, fo_f, fo_a, fo_j, co_f, co_a, co_j, ao_f, ao_a, ao_j, zo_f, zo_a, zo_j, jo_f, jo_a, jo_j, al_f, al_a, al_j, fg_a, fg_j, ag_f, ag_j, jg_f, jg_a, fk_f, fk_a, fk_j, fi_a, fi_j, tI_0, tI_n0, if_true, if_false, ne_eq, not_true_eq_false, not_false_eq_true, and_self, Bool.false_eq_true, nI_nge8 hi8, oc64 h, of64_0 h, og64_0 h, ok64_0 h, of64_1 h, og64_1 h, of64_2 h, og64_2 h, of64_3 h, og64_3 h, of64_4 h, og64_4 h, of64_5 h, og64_5 h, ok64_5 h, of64_6 h, og64_6 h, ok64_6 h, of64_7 h, og64_7 h, of64_8 h, og64_8 h, of64_9 h, og64_9 h, of64_10 h, og64_10 h, of64_11 h, og64_11 h, of64_12 h, og64_12 h, of64_13 h, og64_13 h, ok64_13 h, of64_14 h, og64_14 h, of64_15 h, og64_15 h, ok64_15 h, of64_16 h, og64_16 h, of64_17 h, og64_17 h, of64_18 h, og64_18 h, of64_19 h, og64_19 h, of64_20 h, og64_20 h, of64_21 h, og64_21 h, ok64_21 h, of64_22 h, og64_22 h, of64_23 h, og64_23 h, ok64_23 h, of64_24 h, og64_24 h, ok64_24 h, of64_25 h, og64_25 h, ok64_25 h, of64_26 h, og64_26 h, ok64_26 h, of64_27 h, og64_27 h, ok64_27 h, of64_28 h, og64_28 h, of64_29 h, og64_29 h, of64_30 h, og64_30 h, of64_31 h, og64_31 h, of64_32 h, og64_32 h, of64_33 h, og64_33 h, of64_34 h, og64_34 h, of64_35 h, og64_35 h, ok64_35 h, of64_36 h, og64_36 h, ok64_36 h, oa68 h, ol68 h, hte, x_ones (show t < 1024 by omega), b8 hi8, c8 hi8, hnx, ih (by omega)]
    rw [sumC, hte]
theorem op_tie {X : Scr} {w : AW} (h : SI w) {a b c : Int32} : both X 13 99 [.ref 0, .int a, .int b, .int c] [.ref 64, .int a, .int b, .int c, uns, uns] w := by
  obtain ⟨h0, h1, h2, h3, h4, h5, h6, h7, h8, h9⟩ := id h
  by_cases ha : 0 ≤ a ∧ a < 8
  · by_cases hb : 0 ≤ b ∧ b < 8
    · by_cases hab : a = b
      · refine ⟨.int (-1), w, w, ?_, ?_, h⟩
        · simp only [z13_0, z13_1, z13_4, z13_7, z13_8, z13_11, z13_14, z13_15, z13_16, z13_19, z13_20, z13_21, z13_22, z13_25, z13_26, z13_27, z13_28, z13_31, z13_32, z13_35, z13_38, Option.bind_some, Option.toList_some, Option.toList_none, List.cons_append, List.nil_append, sc_i, sc_r, sc_l, sc_u, sc_s, List.length_nil, List.length_cons, Nat.reduceAdd, Nat.reduceLeDiff, Nat.zero_le, le4_0, le4_1, le4_2, le4_3, rz0, rz1, rzt, eq_self, x_isKin, ha, hb, hab, tI_0, tI_n0, if_true, if_false, ne_eq, not_true_eq_false, not_false_eq_true, and_self, Bool.false_eq_true]
        · simp only [z99_0, z99_1, z99_4, z99_7, z99_8, z99_11, z99_14, z99_15, z99_16, z99_19, z99_20, z99_21, z99_22, z99_25, z99_26, z99_27, z99_30, z99_31, z99_32, z99_33, z99_34, z99_37, z99_38, z99_39, z99_42, z99_43, z99_44, z99_47, z99_48, z99_49, z99_50, z99_51, z99_54, z99_55, z99_56, z99_58, z99_59, z99_63, z99_65, z99_68, z99_70, z99_71, z99_74, z99_76, z99_77, z99_80, z99_81, z99_83, z99_86, z99_89, z99_91, z99_92, z99_93, Option.bind_some, Option.toList_some, Option.toList_none, List.cons_append, List.nil_append, sc_i, sc_r, sc_l, sc_u, sc_s, List.length_nil, List.length_cons, Nat.reduceAdd, Nat.reduceLeDiff, Nat.zero_le, le4_0, le4_1, le4_2, le4_3, rz0, rz1, rzt, eq_self, x_mIsKin, ha, hb, hab, tI_0, tI_n0, if_true, if_false, ne_eq, not_true_eq_false, not_false_eq_true, and_self, Bool.false_eq_true]
      · obtain ⟨i, hi, rfl⟩ := kin_of ha
        obtain ⟨j, hj, rfl⟩ := kin_of hb
        have hrT : ∀ k, k < 8 → rng (tset c (aget w 5) i j k) 255 := fun k hk => by
          have q1 : ∀ k, k < 8 → rng (upd (aget w 5) i (tnew c (aget w 5 i) j) k) 255 := fun k hk => by
            rw [updI]
            by_cases e : k = i
            · rw [if_pos e]; exact tnew_r (h1.1 i hi).2.2.2 hj
            · rw [if_neg e]; exact (h1.1 k hk).2.2.2
          unfold tset
          rw [updI]
          by_cases e : k = j
          · rw [if_pos e]; exact tnew_r (q1 j hj) hi
          · rw [if_neg e]; exact q1 k hk
        have hsim : ∀ k, k < 8 → tset c (aget w 5) i j k = tset c (aget w 68) i j k := fun k hk => by
          unfold tset
          simp only [updI, (h2.1 k hk).2.2.2, (h2.1 i hi).2.2.2, (h2.1 j hj).2.2.2]
        have ok1 : OK (aset w 5 (tset c (aget w 5) i j)) := ok_a h0
        have ok2 : OK (aset (aset w 5 (tset c (aget w 5) i j)) 68 (tset c (aget w 68) i j)) := ok_a ok1
        have g68 : aget (aset (aset w 5 (tset c (aget w 5) i j)) 68 (tset c (aget w 68) i j)) 68 = tset c (aget w 68) i j := ag_s (oa68 ok1)
        have hm := x_mtieL (X := X) (a := nI i) (b := nI j) (c := c) ok2 (fun k hk => by rw [g68, ← hsim k hk]; exact hrT k hk) 8 (Nat.le_refl 8) 0
        have e0 : nI (8 - 8) = 0 := rfl
        rw [e0, g68] at hm
        have hset := x_setTie (X := X) (c := c) (ok_f1 h0) hi hj
        have hcnt := x_cnt (X := X) (ok_f1 ok1)
        have g5 : aget (aset w 5 (tset c (aget w 5) i j)) (1 + 4) = tset c (aget w 5) i j := ag_s (oa5 h0)
        rw [g5] at hcnt
        refine ⟨.int (sumC (fun k => bcF (tset c (aget w 5) i j k)) 8 0 / 2), aset w 5 (tset c (aget w 5) i j), aset (aset w 5 (tset c (aget w 5) i j)) 68 (tset c (aget w 68) i j), ?_, ?_, ?_⟩
        · simp only [z13_0, z13_1, z13_4, z13_7, z13_8, z13_11, z13_14, z13_15, z13_16, z13_19, z13_20, z13_21, z13_22, z13_25, z13_26, z13_27, z13_28, z13_31, z13_32, z13_35, z13_38, Option.bind_some, Option.toList_some, Option.toList_none, List.cons_append, List.nil_append, sc_i, sc_r, sc_l, sc_u, sc_s, List.length_nil, List.length_cons, Nat.reduceAdd, Nat.reduceLeDiff, Nat.zero_le, le4_0, le4_1, le4_2, le4_3, rz0, rz1, rzt, eq_self, fo_f, fo_a, fo_j, co_f, co_a, co_j, ao_f, ao_a, ao_j, zo_f, zo_a, zo_j, jo_f, jo_a, jo_j, al_f, al_a, al_j, fg_a, fg_j, ag_f, ag_j, jg_f, jg_a, fk_f, fk_a, fk_j, fi_a, fi_j, oc0 h0, of0_0 h0, og0_0 h0, of0_1 h0, og0_1 h0, of0_2 h0, og0_2 h0, of0_3 h0, og0_3 h0, of0_4 h0, og0_4 h0, of0_5 h0, og0_5 h0, of0_6 h0, og0_6 h0, of0_7 h0, og0_7 h0, of0_8 h0, og0_8 h0, of0_9 h0, og0_9 h0, of0_10 h0, og0_10 h0, oc1 h0, of1_0 h0, og1_0 h0, of1_1 h0, og1_1 h0, of1_2 h0, og1_2 h0, of1_3 h0, og1_3 h0, of1_4 h0, og1_4 h0, ok1_4 h0, of1_5 h0, og1_5 h0, ok1_5 h0, of1_6 h0, og1_6 h0, ok1_6 h0, x_isKin, ha, hb, hab, tI_0, tI_n0, if_true, if_false, ne_eq, not_true_eq_false, not_false_eq_true, and_self, Bool.false_eq_true, hset, Nat.reduceAdd, hcnt]
        · rw [sumC_c (g' := fun k => bcF (tset c (aget w 68) i j k)) (fun k hk => by rw [hsim k hk])]
          simp only [tset] at hm ⊢
          simp only [z99_0, z99_1, z99_4, z99_7, z99_8, z99_11, z99_14, z99_15, z99_16, z99_19, z99_20, z99_21, z99_22, z99_25, z99_26, z99_27, z99_30, z99_31, z99_32, z99_33, z99_34, z99_37, z99_38, z99_39, z99_42, z99_43, z99_44, z99_47, z99_48, z99_49, z99_50, z99_51, z99_54, z99_55, z99_56, z99_58, z99_59, z99_63, z99_65, z99_68, z99_70, z99_71, z99_74, z99_76, z99_77, z99_80, z99_81, z99_83, z99_86, z99_89, z99_91, z99_92, z99_93, Option.bind_some, Option.toList_some, Option.toList_none, List.cons_append, List.nil_append, sc_i, sc_r, sc_l, sc_u, sc_s, List.length_nil, List.length_cons, Nat.reduceAdd, Nat.reduceLeDiff, Nat.zero_le, le4_0, le4_1, le4_2, le4_3, rz0, rz1, rzt, eq_self, fo_f, fo_a, fo_j, co_f, co_a, co_j, ao_f, ao_a, ao_j, zo_f, zo_a, zo_j, jo_f, jo_a, jo_j, al_f, al_a, al_j, fg_a, fg_j, ag_f, ag_j, jg_f, jg_a, fk_f, fk_a, fk_j, fi_a, fi_j, oc64 h0, of64_0 h0, og64_0 h0, ok64_0 h0, of64_1 h0, og64_1 h0, of64_2 h0, og64_2 h0, of64_3 h0, og64_3 h0, of64_4 h0, og64_4 h0, of64_5 h0, og64_5 h0, ok64_5 h0, of64_6 h0, og64_6 h0, ok64_6 h0, of64_7 h0, og64_7 h0, of64_8 h0, og64_8 h0, of64_9 h0, og64_9 h0, of64_10 h0, og64_10 h0, of64_11 h0, og64_11 h0, of64_12 h0, og64_12 h0, of64_13 h0, og64_13 h0, ok64_13 h0, of64_14 h0, og64_14 h0, of64_15 h0, og64_15 h0, ok64_15 h0, of64_16 h0, og64_16 h0, of64_17 h0, og64_17 h0, of64_18 h0, og64_18 h0, of64_19 h0, og64_19 h0, of64_20 h0, og64_20 h0, of64_21 h0, og64_21 h0, ok64_21 h0, of64_22 h0, og64_22 h0, of64_23 h0, og64_23 h0, ok64_23 h0, of64_24 h0, og64_24 h0, ok64_24 h0, of64_25 h0, og64_25 h0, ok64_25 h0, of64_26 h0, og64_26 h0, ok64_26 h0, of64_27 h0, og64_27 h0, ok64_27 h0, of64_28 h0, og64_28 h0, of64_29 h0, og64_29 h0, of64_30 h0, og64_30 h0, of64_31 h0, og64_31 h0, of64_32 h0, og64_32 h0, of64_33 h0, og64_33 h0, of64_34 h0, og64_34 h0, of64_35 h0, og64_35 h0, ok64_35 h0, of64_36 h0, og64_36 h0, ok64_36 h0, oa68 h0, ol68 h0, x_mIsKin, ha, hb, hab, tI_0, tI_n0, if_true, if_false, ne_eq, not_true_eq_false, not_false_eq_true, and_self, Bool.false_eq_true, x_mwith, b8 hi, b8 hj, c8 hi, c8 hj, ag_s, ag_z, ag_n, fi_s, fi_n, fg_s, fg_n, jg_s, jg_n, Nat.reduceEqDiff, not_false_eq_true, and_false, false_and, true_and, and_true, and_self, as_s, hm]
        · refine SI_F h ok2 ?_ ?_ ?_
          · repeat' first | exact sb_rf | refine sb_a ?_ (by decide) | refine sb_f ?_ (by decide)
          · unfold famIn
            simp only [fo_f, fo_a, fo_j, co_f, co_a, co_j, ao_f, ao_a, ao_j, zo_f, zo_a, zo_j, jo_f, jo_a, jo_j, al_f, al_a, al_j, fg_a, fg_j, ag_f, ag_j, jg_f, jg_a, fk_f, fk_a, fk_j, fi_a, fi_j, ag_s, ag_z, ag_n, fi_s, fi_n, fg_s, fg_n, jg_s, jg_n, Nat.reduceEqDiff, not_false_eq_true, and_false, false_and, true_and, and_true, and_self, oc1 h0, of1_0 h0, og1_0 h0, of1_1 h0, og1_1 h0, of1_2 h0, og1_2 h0, of1_3 h0, og1_3 h0, of1_4 h0, og1_4 h0, ok1_4 h0, of1_5 h0, og1_5 h0, ok1_5 h0, of1_6 h0, og1_6 h0, ok1_6 h0, oa5 h0, ol5 h0, oc64 h0, of64_0 h0, og64_0 h0, ok64_0 h0, of64_1 h0, og64_1 h0, of64_2 h0, og64_2 h0, of64_3 h0, og64_3 h0, of64_4 h0, og64_4 h0, of64_5 h0, og64_5 h0, ok64_5 h0, of64_6 h0, og64_6 h0, ok64_6 h0, of64_7 h0, og64_7 h0, of64_8 h0, og64_8 h0, of64_9 h0, og64_9 h0, of64_10 h0, og64_10 h0, of64_11 h0, og64_11 h0, of64_12 h0, og64_12 h0, of64_13 h0, og64_13 h0, ok64_13 h0, of64_14 h0, og64_14 h0, of64_15 h0, og64_15 h0, ok64_15 h0, of64_16 h0, og64_16 h0, of64_17 h0, og64_17 h0, of64_18 h0, og64_18 h0, of64_19 h0, og64_19 h0, of64_20 h0, og64_20 h0, of64_21 h0, og64_21 h0, ok64_21 h0, of64_22 h0, og64_22 h0, of64_23 h0, og64_23 h0, ok64_23 h0, of64_24 h0, og64_24 h0, ok64_24 h0, of64_25 h0, og64_25 h0, ok64_25 h0, of64_26 h0, og64_26 h0, ok64_26 h0, of64_27 h0, og64_27 h0, ok64_27 h0, of64_28 h0, og64_28 h0, of64_29 h0, og64_29 h0, of64_30 h0, og64_30 h0, of64_31 h0, og64_31 h0, of64_32 h0, og64_32 h0, of64_33 h0, og64_33 h0, of64_34 h0, og64_34 h0, of64_35 h0, og64_35 h0, ok64_35 h0, of64_36 h0, og64_36 h0, ok64_36 h0, oa68 h0, ol68 h0, Nat.reduceAdd]
            exact ⟨fun k hk => ⟨(h1.1 k hk).1, (h1.1 k hk).2.1, (h1.1 k hk).2.2.1, hrT k hk⟩, h1.2.1, h1.2.2⟩
          · unfold simF
            simp only [fo_f, fo_a, fo_j, co_f, co_a, co_j, ao_f, ao_a, ao_j, zo_f, zo_a, zo_j, jo_f, jo_a, jo_j, al_f, al_a, al_j, fg_a, fg_j, ag_f, ag_j, jg_f, jg_a, fk_f, fk_a, fk_j, fi_a, fi_j, ag_s, ag_z, ag_n, fi_s, fi_n, fg_s, fg_n, jg_s, jg_n, Nat.reduceEqDiff, not_false_eq_true, and_false, false_and, true_and, and_true, and_self, oc1 h0, of1_0 h0, og1_0 h0, of1_1 h0, og1_1 h0, of1_2 h0, og1_2 h0, of1_3 h0, og1_3 h0, of1_4 h0, og1_4 h0, ok1_4 h0, of1_5 h0, og1_5 h0, ok1_5 h0, of1_6 h0, og1_6 h0, ok1_6 h0, oa5 h0, ol5 h0, oc64 h0, of64_0 h0, og64_0 h0, ok64_0 h0, of64_1 h0, og64_1 h0, of64_2 h0, og64_2 h0, of64_3 h0, og64_3 h0, of64_4 h0, og64_4 h0, of64_5 h0, og64_5 h0, ok64_5 h0, of64_6 h0, og64_6 h0, ok64_6 h0, of64_7 h0, og64_7 h0, of64_8 h0, og64_8 h0, of64_9 h0, og64_9 h0, of64_10 h0, og64_10 h0, of64_11 h0, og64_11 h0, of64_12 h0, og64_12 h0, of64_13 h0, og64_13 h0, ok64_13 h0, of64_14 h0, og64_14 h0, of64_15 h0, og64_15 h0, ok64_15 h0, of64_16 h0, og64_16 h0, of64_17 h0, og64_17 h0, of64_18 h0, og64_18 h0, of64_19 h0, og64_19 h0, of64_20 h0, og64_20 h0, of64_21 h0, og64_21 h0, ok64_21 h0, of64_22 h0, og64_22 h0, of64_23 h0, og64_23 h0, ok64_23 h0, of64_24 h0, og64_24 h0, ok64_24 h0, of64_25 h0, og64_25 h0, ok64_25 h0, of64_26 h0, og64_26 h0, ok64_26 h0, of64_27 h0, og64_27 h0, ok64_27 h0, of64_28 h0, og64_28 h0, of64_29 h0, og64_29 h0, of64_30 h0, og64_30 h0, of64_31 h0, og64_31 h0, of64_32 h0, og64_32 h0, of64_33 h0, og64_33 h0, of64_34 h0, og64_34 h0, of64_35 h0, og64_35 h0, ok64_35 h0, of64_36 h0, og64_36 h0, ok64_36 h0, oa68 h0, ol68 h0, Nat.reduceAdd]
            exact ⟨fun k hk => ⟨(h2.1 k hk).1, (h2.1 k hk).2.1, (h2.1 k hk).2.2.1, hsim k hk⟩, h2.2.1, h2.2.2.1, h2.2.2.2⟩
    · refine ⟨.int (-1), w, w, ?_, ?_, h⟩
      · simp only [z13_0, z13_1, z13_4, z13_7, z13_8, z13_11, z13_14, z13_15, z13_16, z13_19, z13_20, z13_21, z13_22, z13_25, z13_26, z13_27, z13_28, z13_31, z13_32, z13_35, z13_38, Option.bind_some, Option.toList_some, Option.toList_none, List.cons_append, List.nil_append, sc_i, sc_r, sc_l, sc_u, sc_s, List.length_nil, List.length_cons, Nat.reduceAdd, Nat.reduceLeDiff, Nat.zero_le, le4_0, le4_1, le4_2, le4_3, rz0, rz1, rzt, eq_self, x_isKin, ha, hb, tI_0, tI_n0, if_true, if_false, ne_eq, not_true_eq_false, not_false_eq_true, and_self, Bool.false_eq_true]
      · simp only [z99_0, z99_1, z99_4, z99_7, z99_8, z99_11, z99_14, z99_15, z99_16, z99_19, z99_20, z99_21, z99_22, z99_25, z99_26, z99_27, z99_30, z99_31, z99_32, z99_33, z99_34, z99_37, z99_38, z99_39, z99_42, z99_43, z99_44, z99_47, z99_48, z99_49, z99_50, z99_51, z99_54, z99_55, z99_56, z99_58, z99_59, z99_63, z99_65, z99_68, z99_70, z99_71, z99_74, z99_76, z99_77, z99_80, z99_81, z99_83, z99_86, z99_89, z99_91, z99_92, z99_93, Option.bind_some, Option.toList_some, Option.toList_none, List.cons_append, List.nil_append, sc_i, sc_r, sc_l, sc_u, sc_s, List.length_nil, List.length_cons, Nat.reduceAdd, Nat.reduceLeDiff, Nat.zero_le, le4_0, le4_1, le4_2, le4_3, rz0, rz1, rzt, eq_self, x_mIsKin, ha, hb, tI_0, tI_n0, if_true, if_false, ne_eq, not_true_eq_false, not_false_eq_true, and_self, Bool.false_eq_true]
  · refine ⟨.int (-1), w, w, ?_, ?_, h⟩
    · simp only [z13_0, z13_1, z13_4, z13_7, z13_8, z13_11, z13_14, z13_15, z13_16, z13_19, z13_20, z13_21, z13_22, z13_25, z13_26, z13_27, z13_28, z13_31, z13_32, z13_35, z13_38, Option.bind_some, Option.toList_some, Option.toList_none, List.cons_append, List.nil_append, sc_i, sc_r, sc_l, sc_u, sc_s, List.length_nil, List.length_cons, Nat.reduceAdd, Nat.reduceLeDiff, Nat.zero_le, le4_0, le4_1, le4_2, le4_3, rz0, rz1, rzt, eq_self, x_isKin, ha, tI_0, tI_n0, if_true, if_false, ne_eq, not_true_eq_false, not_false_eq_true, and_self, Bool.false_eq_true]
    · simp only [z99_0, z99_1, z99_4, z99_7, z99_8, z99_11, z99_14, z99_15, z99_16, z99_19, z99_20, z99_21, z99_22, z99_25, z99_26, z99_27, z99_30, z99_31, z99_32, z99_33, z99_34, z99_37, z99_38, z99_39, z99_42, z99_43, z99_44, z99_47, z99_48, z99_49, z99_50, z99_51, z99_54, z99_55, z99_56, z99_58, z99_59, z99_63, z99_65, z99_68, z99_70, z99_71, z99_74, z99_76, z99_77, z99_80, z99_81, z99_83, z99_86, z99_89, z99_91, z99_92, z99_93, Option.bind_some, Option.toList_some, Option.toList_none, List.cons_append, List.nil_append, sc_i, sc_r, sc_l, sc_u, sc_s, List.length_nil, List.length_cons, Nat.reduceAdd, Nat.reduceLeDiff, Nat.zero_le, le4_0, le4_1, le4_2, le4_3, rz0, rz1, rzt, eq_self, x_mIsKin, ha, tI_0, tI_n0, if_true, if_false, ne_eq, not_true_eq_false, not_false_eq_true, and_self, Bool.false_eq_true]
