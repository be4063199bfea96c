/-! oldestOf, both sides -/
/-- bit i of s -/
def bq (s : Int32) (i : Nat) : Bool := decide ((s >>> (nI i &&& 31)) &&& 1 = 1)
theorem bit_iff {s : Int32} {i : Nat} : bq s i ↔ (s >>> (nI i &&& 31)) &&& 1 = 1 := decide_eq_true_iff
theorem tI_c {p q : Prop} [Decidable p] [Decidable q] (h : p ↔ q) : tI p = tI q := by
  by_cases hp : p
  · rw [tI_t hp, tI_t (h.mp hp)]
  · rw [tI_f hp, tI_f (fun z => hp (h.mpr z))]
theorem tI_0 {p : Prop} [Decidable p] : (tI p = 0) = ¬ p := by
  by_cases h : p
  · rw [tI_t h]; simp [h]
  · rw [tI_f h]; simp [h]
theorem tI_n0 {p : Prop} [Decidable p] : (tI p ≠ 0) = p := by
  by_cases h : p
  · rw [tI_t h]; simp [h]
  · rw [tI_f h]; simp [h]
theorem x_isOfN2 {X : Scr} {s : Int32} {j : Nat} {w : AW} (hj : j < 10) : Z X 36 0 [.int s, .int (nI j)] [] w = some (some (.int (tI (bq s j))), w) := by
  rw [x_isOf (nI_pos' (by omega)) (by rw [show (30 : Int32) = nI 30 from rfl]; exact nI_le (by omega) (by decide)), tI_c bit_iff.symm]
theorem nI_8 : (8 : Int32) = nI 8 := rfl
theorem nI_nge8 {i : Nat} (h : i < 8) : ¬ (nI i ≥ 8) := by
  show ¬ (8 : Int32) ≤ nI i
  rw [nI_8]
  exact nI_ge h (by decide)
theorem nI_30 {i : Nat} (h : i < 8) : 0 ≤ nI i ∧ nI i ≤ 30 := ⟨nI_pos' (by omega), by rw [show (30 : Int32) = nI 30 from rfl]; exact nI_le (by omega) (by decide)⟩
/-- the class's loop, from i on, n places left -/
def oldC (ag : Nat → Int32) (s : Int32) : Nat → Int32 → Int32 → Int32
  | 0, fd, _ => fd
  | n + 1, fd, fa => if bq s (7 - n) ∧ ag (7 - n) > fa then oldC ag s n (nI (7 - n)) (ag (7 - n)) else oldC ag s n fd fa
theorem x_oldLoop {X : Scr} {w : AW} {F : Nat} {s : Int32} (h : famOK w F) : ∀ (n : Nat), n ≤ 8 → ∀ (fd fa : Int32), Z X 35 8 [.ref F, .int s, .int fd, .int fa, .int (nI (8 - n))] [] w = some (some (.int (oldC (aget w (F + 1)) s n fd fa)), w) := by
  obtain ⟨o, f0, f1, f2, f3, f4, f5, f6, a1, a2, a3, a4, l1, l2, l3, l4⟩ := h
  have hf := fok_of (k := 0) o (by decide)
  intro n
  induction n with
  | zero =>
    intro hn fd fa
    have e : nI (8 - 0) ≥ 8 := by decide
    rw [z35_8]
    simp only [z35_0, z35_2, z35_3, z35_4, z35_5, z35_6, z35_10, z35_12, z35_15, z35_16, z35_18, z35_21, z35_24, z35_25, z35_28, z35_30, z35_31, z35_32, z35_35, z35_37, z35_38, z35_39, z35_42, z35_44, z35_45, z35_46, z35_49, z35_52, z35_53, Option.bind_some, Option.toList_some, Option.toList_none, List.cons_append, List.nil_append, sc_i, sc_r, sc_l, sc_u, sc_s, List.length_nil, List.length_cons, Nat.reduceAdd, Nat.reduceLeDiff, Nat.zero_le, le4_0, le4_1, le4_2, le4_3, rz0, rz1, rzt, eq_self, e, if_true]
    rfl
  | succ n ih =>
    intro hn fd fa
    have hi : 8 - (n + 1) = 7 - n := by omega
    have hi8 : 7 - n < 8 := by omega
    have hnx : nI (7 - n) + 1 = nI (8 - n) := by rw [nI_1]; congr 1; omega
    have hcl : (nI (7 - n)).toNatClampNeg = 7 - n := nI_clamp (by omega)
    have hin : inB (nI (7 - n)) 8 = true := inB_nI hi8 (by decide)
    rw [hi, z35_8]
    simp only [z35_0, z35_2, z35_3, z35_4, z35_5, z35_6, z35_10, z35_12, z35_15, z35_16, z35_18, z35_21, z35_24, z35_25, z35_28, z35_30, z35_31, z35_32, z35_35, z35_37, z35_38, z35_39, z35_42, z35_44, z35_45, z35_46, z35_49, z35_52, z35_53, Option.bind_some, Option.toList_some, Option.toList_none, List.cons_append, List.nil_append, sc_i, sc_r, sc_l, sc_u, sc_s, List.length_nil, List.length_cons, Nat.reduceAdd, Nat.reduceLeDiff, Nat.zero_le, le4_0, le4_1, le4_2, le4_3, rz0, rz1, rzt, eq_self, x_isOfN2 (show 7 - n < 10 by omega), tI_0, hf, f0, a1, l1, hin, hcl, hnx, if_neg (nI_nge8 hi8), ih (by omega)]
    rw [oldC]
    by_cases hb : bq s (7 - n)
    · rw [if_neg (fun q => q hb)]
      by_cases hg : aget w (F + 1) (7 - n) ≤ fa
      · rw [if_pos hg, if_neg (fun q => i32_nle.mpr q.2 hg)]
      · rw [if_neg hg, if_pos ⟨hb, i32_nle.mp hg⟩]
    · rw [if_pos hb, if_neg (fun q => hb q.1)]
theorem x_old {X : Scr} {w : AW} {F : Nat} {s : Int32} (h : famOK w F) : Z X 35 0 [.ref F, .int s, uns, uns, uns] [] w = some (some (.int (oldC (aget w (F + 1)) s 8 (-6) (-1))), w) := by
  have h1 := x_oldLoop (X := X) (s := s) h 8 (Nat.le_refl 8) (-6) (-1)
  simp only [z35_0, z35_2, z35_3, z35_4, z35_5, z35_6, z35_10, z35_12, z35_15, z35_16, z35_18, z35_21, z35_24, z35_25, z35_28, z35_30, z35_31, z35_32, z35_35, z35_37, z35_38, z35_39, z35_42, z35_44, z35_45, z35_46, z35_49, z35_52, z35_53, Option.bind_some, Option.toList_some, Option.toList_none, List.cons_append, List.nil_append, sc_i, sc_r, sc_l, sc_u, sc_s, List.length_nil, List.length_cons, Nat.reduceAdd, Nat.reduceLeDiff, Nat.zero_le, le4_0, le4_1, le4_2, le4_3, rz0, rz1, rzt, eq_self]
  exact h1
