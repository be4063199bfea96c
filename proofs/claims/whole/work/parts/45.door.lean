/-! door -/
def g64 : Nat → Int64 → Int64 → Int64
  | 0, a, _ => a
  | f + 1, a, b => if b = 0 then a else g64 f b (a - a / b * b)
def d64 : Nat → Int64 → Int64 → Bool
  | 0, _, b => decide (b = 0)
  | f + 1, a, b => if b = 0 then true else d64 f b (a - a / b * b)
def pw (b : Int64) : Nat → Int64
  | 0 => 1
  | n + 1 => pw b n * b
def mu (b : Int64) : Nat → Int64
  | 0 => 0
  | n + 1 => b * (pw 10 n + mu b n)
def mm (b : Int64) : Nat → Int64
  | 0 => 0
  | n + 1 => 10 * mm b n + pw b (n + 1)
def bse (k : Nat) : Int64 := (nI (10 - k)).toInt64
def ckD (x y : Int64) : Bool := d64 100 y x && (decide (g64 100 x y = g64 100 y x) && (decide (g64 100 y x ≠ 0) && (decide ((if g64 100 y x > 1 then x / g64 100 y x else x) = x / g64 100 y x) && decide ((if g64 100 y x > 1 then y / g64 100 y x else y) = y / g64 100 y x))))
def ckA : Bool := (List.range 11).all (fun k => (List.range 16).all (fun n => ckD (pw (bse k) n) (pw 10 n) && (ckD (mu (bse k) n) (pw 10 n) && decide (mm (bse k) n = mu (bse k) n))))
theorem ckA_t : ckA = true := by decide +kernel
theorem ck_at {k n : Nat} (hk : k < 11) (hn : n < 16) : ckD (pw (bse k) n) (pw 10 n) = true ∧ ckD (mu (bse k) n) (pw 10 n) = true ∧ mm (bse k) n = mu (bse k) n := by
  have h := ckA_t
  unfold ckA at h
  rw [List.all_eq_true] at h
  have h1 := h k (List.mem_range.mpr hk)
  rw [List.all_eq_true] at h1
  have h2 := h1 n (List.mem_range.mpr hn)
  rw [Bool.and_eq_true, Bool.and_eq_true, decide_eq_true_eq] at h2
  exact h2
def lowR (x y : Int64) (e : Int32) : Int64 := (if e = 0 then x else y) / g64 100 y x
theorem x_lowL {X : Scr} {w : AW} {x y : Int64} {e : Int32} {G : Int64} (hG : G ≠ 0) : ∀ (f : Nat) (a b : Int64), d64 f a b = true → g64 f a b = G → ∀ v9 v10 : Value, isSec v9 = false → Z X 157 6 [.long x, sec, .long y, sec, .int e, .long a, sec, .long b, sec, v9, v10] [] w = some (some (.long ((if e = 0 then x else y) / G)), w) := by
  have hend : ∀ (a : Int64) (v9 v10 : Value), a = G → Z X 157 6 [.long x, sec, .long y, sec, .int e, .long a, sec, .long 0, sec, v9, v10] [] w = some (some (.long ((if e = 0 then x else y) / G)), w) := by
    intro a v9 v10 ha
    subst ha
    have e0 : lg_cmp 0 0 = 0 := by decide
    rw [z157_6]
    by_cases h : e = 0
    · simp only [z157_0, z157_1, z157_3, z157_4, z157_8, z157_9, z157_10, z157_13, z157_15, z157_17, z157_18, z157_20, z157_22, z157_24, z157_26, z157_28, z157_31, z157_33, z157_36, z157_37, z157_39, z157_40, z157_43, z157_44, z157_46, z157_47, Option.bind_some, Option.toList_some, Option.toList_none, List.cons_append, List.nil_append, sc_i, sc_r, sc_l, sc_u, sc_s, List.length_nil, List.length_cons, Nat.reduceAdd, Nat.reduceLeDiff, Nat.zero_le, le4_0, le4_1, le4_2, le4_3, rz0, rz1, rzt, eq_self, tI_0, tI_n0, if_true, if_false, ne_eq, not_true_eq_false, not_false_eq_true, and_self, Bool.false_eq_true, e0, h, hG]
    · simp only [z157_0, z157_1, z157_3, z157_4, z157_8, z157_9, z157_10, z157_13, z157_15, z157_17, z157_18, z157_20, z157_22, z157_24, z157_26, z157_28, z157_31, z157_33, z157_36, z157_37, z157_39, z157_40, z157_43, z157_44, z157_46, z157_47, Option.bind_some, Option.toList_some, Option.toList_none, List.cons_append, List.nil_append, sc_i, sc_r, sc_l, sc_u, sc_s, List.length_nil, List.length_cons, Nat.reduceAdd, Nat.reduceLeDiff, Nat.zero_le, le4_0, le4_1, le4_2, le4_3, rz0, rz1, rzt, eq_self, tI_0, tI_n0, if_true, if_false, ne_eq, not_true_eq_false, not_false_eq_true, and_self, Bool.false_eq_true, e0, h, hG]
  intro f
  induction f with
  | zero =>
    intro a b hd hg v9 v10 hv
    have hb : b = 0 := by simpa [d64] using hd
    subst hb
    exact hend a v9 v10 hg
  | succ f ih =>
    intro a b hd hg v9 v10 hv
    by_cases hb : b = 0
    · subst hb
      refine hend a v9 v10 ?_
      rw [g64, if_pos rfl] at hg
      exact hg
    · rw [g64, if_neg hb] at hg
      rw [d64, if_neg hb] at hd
      have e1 : ¬ (lg_cmp b 0 = 0) := fun q => hb (lg_eq.mp q)
      have i1 := ih b (a - a / b * b) hd hg (.long (a - a / b * b)) sec sc_l
      rw [z157_6]
      simp only [z157_0, z157_1, z157_3, z157_4, z157_8, z157_9, z157_10, z157_13, z157_15, z157_17, z157_18, z157_20, z157_22, z157_24, z157_26, z157_28, z157_31, z157_33, z157_36, z157_37, z157_39, z157_40, z157_43, z157_44, z157_46, z157_47, Option.bind_some, Option.toList_some, Option.toList_none, List.cons_append, List.nil_append, sc_i, sc_r, sc_l, sc_u, sc_s, List.length_nil, List.length_cons, Nat.reduceAdd, Nat.reduceLeDiff, Nat.zero_le, le4_0, le4_1, le4_2, le4_3, rz0, rz1, rzt, eq_self, tI_0, tI_n0, if_true, if_false, ne_eq, not_true_eq_false, not_false_eq_true, and_self, Bool.false_eq_true, e1, hb, hv, i1]
theorem x_low {X : Scr} {w : AW} {x y : Int64} {e : Int32} (h : ckD x y = true) : Z X 157 0 [.long x, sec, .long y, sec, .int e, uns, uns, uns, uns, uns, uns] [] w = some (some (.long (lowR x y e)), w) := by
  unfold ckD at h
  simp only [Bool.and_eq_true, decide_eq_true_eq] at h
  obtain ⟨h1, h2, h3, h4, h5⟩ := h
  have i1 := x_lowL (X := X) (w := w) (x := x) (y := y) (e := e) h3 100 y x h1 rfl uns uns sc_u
  simp only [z157_0, z157_1, z157_3, z157_4, z157_8, z157_9, z157_10, z157_13, z157_15, z157_17, z157_18, z157_20, z157_22, z157_24, z157_26, z157_28, z157_31, z157_33, z157_36, z157_37, z157_39, z157_40, z157_43, z157_44, z157_46, z157_47, Option.bind_some, Option.toList_some, Option.toList_none, List.cons_append, List.nil_append, sc_i, sc_r, sc_l, sc_u, sc_s, List.length_nil, List.length_cons, Nat.reduceAdd, Nat.reduceLeDiff, Nat.zero_le, le4_0, le4_1, le4_2, le4_3, rz0, rz1, rzt, eq_self, i1]
  rfl
theorem x_cdL {X : Scr} {w : AW} : ∀ (f : Nat), f ≤ 100 → ∀ (a b : Int64) (v5 v6 : Value), isSec v5 = false → Z X 82 3 [.long a, sec, .long b, sec, .int (nI (100 - f)), v5, v6] [] w = some (some (.long (g64 f a b)), w) := by
  intro f
  induction f with
  | zero =>
    intro hf a b v5 v6 hv
    have e : nI (100 - 0) ≥ 100 := by decide
    rw [z82_3]
    simp only [z82_0, z82_1, z82_5, z82_7, z82_10, z82_11, z82_12, z82_13, z82_16, z82_17, z82_18, z82_19, z82_21, z82_22, z82_23, z82_25, z82_26, z82_29, z82_32, z82_33, Option.bind_some, Option.toList_some, Option.toList_none, List.cons_append, List.nil_append, sc_i, sc_r, sc_l, sc_u, sc_s, List.length_nil, List.length_cons, Nat.reduceAdd, Nat.reduceLeDiff, Nat.zero_le, le4_0, le4_1, le4_2, le4_3, rz0, rz1, rzt, eq_self, tI_0, tI_n0, if_true, if_false, ne_eq, not_true_eq_false, not_false_eq_true, and_self, Bool.false_eq_true, e]
    rfl
  | succ f ih =>
    intro hf a b v5 v6 hv
    have e : ¬ (nI (100 - (f + 1)) ≥ 100) := by
      rw [show (100 : Int32) = nI 100 from rfl]
      exact i32_nle.mpr (nI_lt (by omega) (by omega))
    have hnx : nI (100 - (f + 1)) + 1 = nI (100 - f) := by rw [nI_1]; congr 1; omega
    rw [z82_3, g64]
    by_cases hb : b = 0
    · have e1 : lg_cmp 0 0 = 0 := by decide
      subst hb
      simp only [z82_0, z82_1, z82_5, z82_7, z82_10, z82_11, z82_12, z82_13, z82_16, z82_17, z82_18, z82_19, z82_21, z82_22, z82_23, z82_25, z82_26, z82_29, z82_32, z82_33, Option.bind_some, Option.toList_some, Option.toList_none, List.cons_append, List.nil_append, sc_i, sc_r, sc_l, sc_u, sc_s, List.length_nil, List.length_cons, Nat.reduceAdd, Nat.reduceLeDiff, Nat.zero_le, le4_0, le4_1, le4_2, le4_3, rz0, rz1, rzt, eq_self, tI_0, tI_n0, if_true, if_false, ne_eq, not_true_eq_false, not_false_eq_true, and_self, Bool.false_eq_true, e, e1]
    · have e1 : ¬ (lg_cmp b 0 = 0) := fun q => hb (lg_eq.mp q)
      simp only [z82_0, z82_1, z82_5, z82_7, z82_10, z82_11, z82_12, z82_13, z82_16, z82_17, z82_18, z82_19, z82_21, z82_22, z82_23, z82_25, z82_26, z82_29, z82_32, z82_33, Option.bind_some, Option.toList_some, Option.toList_none, List.cons_append, List.nil_append, sc_i, sc_r, sc_l, sc_u, sc_s, List.length_nil, List.length_cons, Nat.reduceAdd, Nat.reduceLeDiff, Nat.zero_le, le4_0, le4_1, le4_2, le4_3, rz0, rz1, rzt, eq_self, tI_0, tI_n0, if_true, if_false, ne_eq, not_true_eq_false, not_false_eq_true, and_self, Bool.false_eq_true, e, e1, hb, hv, hnx, ih (by omega) _ _ _ _ sc_l]
theorem x_inlow {X : Scr} {w : AW} {x y : Int64} {e : Int32} (h : ckD x y = true) : Z X 81 0 [.long x, sec, .long y, sec, .int e, uns, uns, uns, uns] [] w = some (some (.long (lowR x y e)), w) := by
  unfold ckD at h
  simp only [Bool.and_eq_true, decide_eq_true_eq] at h
  obtain ⟨h1, h2, h3, h4, h5⟩ := h
  have i1 := x_cdL (X := X) (w := w) 100 (Nat.le_refl 100) x y uns uns sc_u
  have z0 : nI (100 - 100) = 0 := rfl
  rw [z0, h2] at i1
  unfold lowR
  generalize g64 100 y x = G at *
  by_cases hG : G > 1
  · have e1 : ¬ (lg_cmp G 1 ≤ 0) := i32_nle.mpr (lg_gt.mpr hG)
    by_cases he : e = 0
    · simp only [z81_0, z81_1, z81_2, z81_5, z81_7, z81_9, z81_12, z81_13, z81_16, z81_17, z81_19, z81_21, z81_22, z81_23, z81_26, z81_28, z81_30, z81_31, z81_34, z81_36, z82_0, z82_1, Option.bind_some, Option.toList_some, Option.toList_none, List.cons_append, List.nil_append, sc_i, sc_r, sc_l, sc_u, sc_s, List.length_nil, List.length_cons, Nat.reduceAdd, Nat.reduceLeDiff, Nat.zero_le, le4_0, le4_1, le4_2, le4_3, rz0, rz1, rzt, eq_self, tI_0, tI_n0, if_true, if_false, ne_eq, not_true_eq_false, not_false_eq_true, and_self, Bool.false_eq_true, i1, e1, he, h3]
    · simp only [z81_0, z81_1, z81_2, z81_5, z81_7, z81_9, z81_12, z81_13, z81_16, z81_17, z81_19, z81_21, z81_22, z81_23, z81_26, z81_28, z81_30, z81_31, z81_34, z81_36, z82_0, z82_1, Option.bind_some, Option.toList_some, Option.toList_none, List.cons_append, List.nil_append, sc_i, sc_r, sc_l, sc_u, sc_s, List.length_nil, List.length_cons, Nat.reduceAdd, Nat.reduceLeDiff, Nat.zero_le, le4_0, le4_1, le4_2, le4_3, rz0, rz1, rzt, eq_self, tI_0, tI_n0, if_true, if_false, ne_eq, not_true_eq_false, not_false_eq_true, and_self, Bool.false_eq_true, i1, e1, he, h3]
  · have e1 : lg_cmp G 1 ≤ 0 := i32_nlt.mp (fun q => hG (lg_gt.mp q))
    rw [if_neg hG] at h4 h5
    by_cases he : e = 0
    · simp only [z81_0, z81_1, z81_2, z81_5, z81_7, z81_9, z81_12, z81_13, z81_16, z81_17, z81_19, z81_21, z81_22, z81_23, z81_26, z81_28, z81_30, z81_31, z81_34, z81_36, z82_0, z82_1, Option.bind_some, Option.toList_some, Option.toList_none, List.cons_append, List.nil_append, sc_i, sc_r, sc_l, sc_u, sc_s, List.length_nil, List.length_cons, Nat.reduceAdd, Nat.reduceLeDiff, Nat.zero_le, le4_0, le4_1, le4_2, le4_3, rz0, rz1, rzt, eq_self, tI_0, tI_n0, if_true, if_false, ne_eq, not_true_eq_false, not_false_eq_true, and_self, Bool.false_eq_true, i1, e1, he, h3, ← h4]
    · simp only [z81_0, z81_1, z81_2, z81_5, z81_7, z81_9, z81_12, z81_13, z81_16, z81_17, z81_19, z81_21, z81_22, z81_23, z81_26, z81_28, z81_30, z81_31, z81_34, z81_36, z82_0, z82_1, Option.bind_some, Option.toList_some, Option.toList_none, List.cons_append, List.nil_append, sc_i, sc_r, sc_l, sc_u, sc_s, List.length_nil, List.length_cons, Nat.reduceAdd, Nat.reduceLeDiff, Nat.zero_le, le4_0, le4_1, le4_2, le4_3, rz0, rz1, rzt, eq_self, tI_0, tI_n0, if_true, if_false, ne_eq, not_true_eq_false, not_false_eq_true, and_self, Bool.false_eq_true, i1, e1, he, h3, ← h5]
theorem x_powL {X : Scr} {w : AW} {b : Int32} {m : Nat} (hm : m < 1000) : ∀ (f i : Nat), i + f = m → Z X 80 5 [.int b, .int (nI m), .long (pw b.toInt64 i), sec, .int (nI i)] [] w = some (some (.long (pw b.toInt64 m)), w) := by
  intro f
  induction f with
  | zero =>
    intro i hi
    have hi : i = m := hi
    subst hi
    rw [z80_5]
    simp only [z80_0, z80_1, z80_2, z80_3, z80_7, z80_8, z80_11, z80_12, z80_13, z80_14, z80_15, z80_16, z80_19, z80_22, z80_23, Option.bind_some, Option.toList_some, Option.toList_none, List.cons_append, List.nil_append, sc_i, sc_r, sc_l, sc_u, sc_s, List.length_nil, List.length_cons, Nat.reduceAdd, Nat.reduceLeDiff, Nat.zero_le, le4_0, le4_1, le4_2, le4_3, rz0, rz1, rzt, eq_self, tI_0, tI_n0, if_true, if_false, ne_eq, not_true_eq_false, not_false_eq_true, and_self, Bool.false_eq_true, geN hm hm, Nat.le_refl]
  | succ f ih =>
    intro i hi
    have e : ¬ m ≤ i := by omega
    have hp : pw b.toInt64 i * b.toInt64 = pw b.toInt64 (i + 1) := rfl
    rw [z80_5]
    simp only [z80_0, z80_1, z80_2, z80_3, z80_7, z80_8, z80_11, z80_12, z80_13, z80_14, z80_15, z80_16, z80_19, z80_22, z80_23, Option.bind_some, Option.toList_some, Option.toList_none, List.cons_append, List.nil_append, sc_i, sc_r, sc_l, sc_u, sc_s, List.length_nil, List.length_cons, Nat.reduceAdd, Nat.reduceLeDiff, Nat.zero_le, le4_0, le4_1, le4_2, le4_3, rz0, rz1, rzt, eq_self, tI_0, tI_n0, if_true, if_false, ne_eq, not_true_eq_false, not_false_eq_true, and_self, Bool.false_eq_true, geN (show i < 1000 by omega) hm, e, nI_1, hp, ih (i + 1) (by omega)]
theorem x_pow {X : Scr} {w : AW} {b : Int32} {m : Nat} (hm : m < 1000) : Z X 80 0 [.int b, .int (nI m), uns, uns, uns] [] w = some (some (.long (pw b.toInt64 m)), w) := by
  have h1 := x_powL (X := X) (w := w) (b := b) hm m 0 (by omega)
  have e : nI 0 = 0 := rfl
  have e2 : pw b.toInt64 0 = 1 := rfl
  rw [e, e2] at h1
  simp only [z80_0, z80_1, z80_2, z80_3, z80_7, z80_8, z80_11, z80_12, z80_13, z80_14, z80_15, z80_16, z80_19, z80_22, z80_23, Option.bind_some, Option.toList_some, Option.toList_none, List.cons_append, List.nil_append, sc_i, sc_r, sc_l, sc_u, sc_s, List.length_nil, List.length_cons, Nat.reduceAdd, Nat.reduceLeDiff, Nat.zero_le, le4_0, le4_1, le4_2, le4_3, rz0, rz1, rzt, eq_self, h1]
theorem x_muL {X : Scr} {w : AW} {b : Int32} {m : Nat} (hm : m < 1000) : ∀ (f i : Nat), i + f = m → Z X 83 8 [.int b, .int (nI m), .long (mu b.toInt64 i), sec, .long (pw 10 i), sec, .int (nI i)] [] w = some (some (.long (mu b.toInt64 m)), w) := by
  intro f
  induction f with
  | zero =>
    intro i hi
    have hi : i = m := hi
    subst hi
    rw [z83_8]
    simp only [z83_0, z83_1, z83_2, z83_3, z83_5, z83_6, z83_10, z83_11, z83_14, z83_15, z83_16, z83_18, z83_19, z83_20, z83_21, z83_22, z83_24, z83_27, z83_28, z83_30, z83_33, z83_36, z83_37, Option.bind_some, Option.toList_some, Option.toList_none, List.cons_append, List.nil_append, sc_i, sc_r, sc_l, sc_u, sc_s, List.length_nil, List.length_cons, Nat.reduceAdd, Nat.reduceLeDiff, Nat.zero_le, le4_0, le4_1, le4_2, le4_3, rz0, rz1, rzt, eq_self, tI_0, tI_n0, if_true, if_false, ne_eq, not_true_eq_false, not_false_eq_true, and_self, Bool.false_eq_true, geN hm hm, Nat.le_refl]
  | succ f ih =>
    intro i hi
    have e : ¬ m ≤ i := by omega
    have hp : b.toInt64 * (pw 10 i + mu b.toInt64 i) = mu b.toInt64 (i + 1) := rfl
    have hq : pw 10 i * 10 = pw 10 (i + 1) := rfl
    rw [z83_8]
    simp only [z83_0, z83_1, z83_2, z83_3, z83_5, z83_6, z83_10, z83_11, z83_14, z83_15, z83_16, z83_18, z83_19, z83_20, z83_21, z83_22, z83_24, z83_27, z83_28, z83_30, z83_33, z83_36, z83_37, Option.bind_some, Option.toList_some, Option.toList_none, List.cons_append, List.nil_append, sc_i, sc_r, sc_l, sc_u, sc_s, List.length_nil, List.length_cons, Nat.reduceAdd, Nat.reduceLeDiff, Nat.zero_le, le4_0, le4_1, le4_2, le4_3, rz0, rz1, rzt, eq_self, tI_0, tI_n0, if_true, if_false, ne_eq, not_true_eq_false, not_false_eq_true, and_self, Bool.false_eq_true, geN (show i < 1000 by omega) hm, e, nI_1, hp, hq, ih (i + 1) (by omega)]
theorem x_mu {X : Scr} {w : AW} {b : Int32} {m : Nat} (hm : m < 1000) : Z X 83 0 [.int b, .int (nI m), uns, uns, uns, uns, uns] [] w = some (some (.long (mu b.toInt64 m)), w) := by
  have h1 := x_muL (X := X) (w := w) (b := b) hm m 0 (by omega)
  have e : nI 0 = 0 := rfl
  have e2 : pw 10 0 = 1 := rfl
  have e3 : mu b.toInt64 0 = 0 := rfl
  rw [e, e2, e3] at h1
  simp only [z83_0, z83_1, z83_2, z83_3, z83_5, z83_6, z83_10, z83_11, z83_14, z83_15, z83_16, z83_18, z83_19, z83_20, z83_21, z83_22, z83_24, z83_27, z83_28, z83_30, z83_33, z83_36, z83_37, Option.bind_some, Option.toList_some, Option.toList_none, List.cons_append, List.nil_append, sc_i, sc_r, sc_l, sc_u, sc_s, List.length_nil, List.length_cons, Nat.reduceAdd, Nat.reduceLeDiff, Nat.zero_le, le4_0, le4_1, le4_2, le4_3, rz0, rz1, rzt, eq_self, h1]
theorem bse_sub : ∀ k, k < 11 → (10 : Int64) - (nI k).toInt64 = bse k := by decide
theorem x_mdoorL {X : Scr} {w : AW} {a c d e : Int32} {v0 : Value} {k m : Nat} (hk : k < 11) (hm : m < 1000) : ∀ (f i : Nat), i + f = m → Z X 155 59 [v0, .int a, .int (nI k), .int c, .int d, .int e, .int (nI m), .long (pw 10 i), sec, .long (pw (bse k) i), sec, .long (mm (bse k) i), sec, .int (nI i)] [] w = Z X 155 102 [v0, .int a, .int (nI k), .int c, .int d, .int e, .int (nI m), .long (pw 10 m), sec, .long (pw (bse k) m), sec, .long (mm (bse k) m), sec, .int (nI m)] [] w := by
  intro f
  induction f with
  | zero =>
    intro i hi
    have hi : i = m := hi
    subst hi
    rw [z155_59]
    simp only [z155_61, z155_63, Option.bind_some, Option.toList_some, Option.toList_none, List.cons_append, List.nil_append, sc_i, sc_r, sc_l, sc_u, sc_s, List.length_nil, List.length_cons, Nat.reduceAdd, Nat.reduceLeDiff, Nat.zero_le, le4_0, le4_1, le4_2, le4_3, rz0, rz1, rzt, eq_self, tI_0, tI_n0, if_true, if_false, ne_eq, not_true_eq_false, not_false_eq_true, and_self, Bool.false_eq_true, geN hm hm, Nat.le_refl]
  | succ f ih =>
    intro i hi
    have e : ¬ m ≤ i := by omega
    have hp : pw 10 i * 10 = pw 10 (i + 1) := rfl
    have hq : pw (bse k) i * bse k = pw (bse k) (i + 1) := rfl
    have hr : 10 * mm (bse k) i + pw (bse k) (i + 1) = mm (bse k) (i + 1) := rfl
    rw [← ih (i + 1) (by omega), z155_59]
    simp only [z155_61, z155_63, z155_66, z155_68, z155_71, z155_72, z155_74, z155_76, z155_79, z155_80, z155_81, z155_82, z155_83, z155_85, z155_88, z155_90, z155_91, z155_93, z155_94, z155_96, z155_99, Option.bind_some, Option.toList_some, Option.toList_none, List.cons_append, List.nil_append, sc_i, sc_r, sc_l, sc_u, sc_s, List.length_nil, List.length_cons, Nat.reduceAdd, Nat.reduceLeDiff, Nat.zero_le, le4_0, le4_1, le4_2, le4_3, rz0, rz1, rzt, eq_self, tI_0, tI_n0, if_true, if_false, ne_eq, not_true_eq_false, not_false_eq_true, and_self, Bool.false_eq_true, geN (show i < 1000 by omega) hm, e, nI_1, bse_sub k hk, hp, hq, hr]
theorem tTr : tI True = 1 := tI_t trivial
theorem tFa : tI False = 0 := tI_f (fun q => q)
theorem x_isDoor {X : Scr} {a b c : Int32} {w : AW} : Z X 156 0 [.int a, .int b, .int c] [] w = some (some (.int (tI ((0 ≤ a ∧ a ≤ 15) ∧ (0 ≤ b ∧ b ≤ 10) ∧ (0 ≤ c ∧ c ≤ a)))), w) := by
  simp only [z156_0, z156_1, z156_2, z156_3, z156_6, z156_9, z156_12, z156_13, z156_14, z156_15, z156_18, z156_21, z156_24, z156_25, z156_26, z156_27, z156_28, z156_29, z156_32, z156_35, z156_36, z156_39, z156_40, Option.bind_some, Option.toList_some, Option.toList_none, List.cons_append, List.nil_append, sc_i, sc_r, sc_l, sc_u, sc_s, List.length_nil, List.length_cons, Nat.reduceAdd, Nat.reduceLeDiff, Nat.zero_le, le4_0, le4_1, le4_2, le4_3, rz0, rz1, rzt, eq_self, fo_f, fo_a, fo_j, co_f, co_a, co_j, ao_f, ao_a, ao_j, zo_f, zo_a, zo_j, jo_f, jo_a, jo_j, al_f, al_a, al_j, fg_a, fg_j, ag_f, ag_j, jg_f, jg_a, fk_f, fk_a, fk_j, fi_a, fi_j, x_mIn, mInC (lo := 0) (hi := 15) 0 15 rfl rfl, mInC (lo := 0) (hi := 10) 0 10 rfl rfl, mInC (lo := 0) (hi := a.toInt64) 0 a rfl rfl]
  by_cases h1 : 0 ≤ a ∧ a ≤ 15
  · by_cases h2 : 0 ≤ b ∧ b ≤ 10
    · by_cases h3 : 0 ≤ c ∧ c ≤ a
      · simp only [h1, h2, h3, and_self, tI_0, tI_n0, if_true, if_false, ne_eq, not_true_eq_false, not_false_eq_true, and_self, Bool.false_eq_true, tTr, z10]
      · simp only [h1, h2, h3, and_self, and_false, tI_0, tI_n0, if_true, if_false, ne_eq, not_true_eq_false, not_false_eq_true, and_self, Bool.false_eq_true, tFa]
    · simp only [h1, h2, false_and, and_false, tI_0, tI_n0, if_true, if_false, ne_eq, not_true_eq_false, not_false_eq_true, and_self, Bool.false_eq_true, tFa]
  · simp only [h1, false_and, tI_0, tI_n0, if_true, if_false, ne_eq, not_true_eq_false, not_false_eq_true, and_self, Bool.false_eq_true, tFa]
theorem op_door {X : Scr} {w : AW} (h : SI w) {a b c d e : Int32} : both X 79 155 [.ref 0, .int a, .int b, .int c, .int d, .int e, uns] [.ref 64, .int a, .int b, .int c, .int d, .int e, uns, uns, uns, uns, uns, uns, uns, uns] w := by
  by_cases ha : 0 ≤ a ∧ a ≤ 15
  · by_cases hb : 0 ≤ b ∧ b ≤ 10
    · by_cases hc : 0 ≤ c ∧ c ≤ a
      · by_cases hd : 0 ≤ d ∧ d ≤ 1
        · by_cases he : 0 ≤ e ∧ e ≤ 1
          · obtain ⟨n, hn, ea⟩ := nat_of (n := 15) rfl ha
            obtain ⟨k, hk, eb⟩ := nat_of (n := 10) rfl hb
            have hc15 : 0 ≤ c ∧ c ≤ 15 := by
              rw [i32r] at ha hc ⊢
              omega
            obtain ⟨m, hm, ec⟩ := nat_of (n := 15) rfl hc15
            have es : (10 : Int32) - nI k = nI (10 - k) := pk_sub hk
            have e10 : (10 : Int32).toInt64 = 10 := rfl
            have eb2 : (nI (10 - k)).toInt64 = bse k := rfl
            have z0 : nI 0 = 0 := rfl
            have p1 := x_pow (X := X) (w := w) (b := nI (10 - k)) (m := m) (by omega)
            have p2 := x_pow (X := X) (w := w) (b := 10) (m := m) (by omega)
            have p3 := x_pow (X := X) (w := w) (b := 10) (m := n) (by omega)
            have p4 := x_mu (X := X) (w := w) (b := nI (10 - k)) (m := n) (by omega)
            rw [e10] at p2 p3
            rw [eb2] at p1 p4
            obtain ⟨k1, -, -⟩ := ck_at (k := k) (n := m) (by omega) (by omega)
            obtain ⟨-, k2, k3⟩ := ck_at (k := k) (n := n) (by omega) (by omega)
            have l1 := x_mdoorL (X := X) (w := w) (a := a) (c := c) (d := d) (e := e) (v0 := .ref 64) (k := k) (m := m) (by omega) (by omega) m 0 (by omega)
            have l2 := x_mdoorL (X := X) (w := w) (a := a) (c := c) (d := d) (e := e) (v0 := .ref 64) (k := k) (m := n) (by omega) (by omega) n 0 (by omega)
            have q1 : pw 10 0 = 1 := rfl
            have q2 : pw (bse k) 0 = 1 := rfl
            have q3 : mm (bse k) 0 = 0 := rfl
            rw [z0, q1, q2, q3, ← eb] at l1 l2
            rw [← ec] at l1 p1 p2
            rw [← ea] at l2 p3 p4
            rw [k3] at l2
            by_cases hd0 : d = 0
            · subst hd0
              refine ⟨.long (lowR (pw (bse k) m) (pw 10 m) e), w, w, ?_, ?_, h⟩
              · rw [← eb] at es
                simp only [z79_0, z79_1, z79_2, z79_4, z79_7, z79_10, z79_11, z79_12, z79_14, z79_17, z79_20, z79_21, z79_22, z79_23, z79_26, z79_29, z79_32, z79_33, z79_35, z79_36, z79_37, z79_40, z79_43, z79_45, z79_46, z79_47, z79_50, z79_53, z79_56, z79_57, z79_59, z79_60, z79_61, z79_63, z79_65, z79_68, z79_70, z79_71, z79_74, z79_76, z79_77, z79_80, z79_82, z79_85, z79_86, z79_88, z79_89, z79_92, z79_94, z79_95, z79_98, z79_100, z79_103, Option.bind_some, Option.toList_some, Option.toList_none, List.cons_append, List.nil_append, sc_i, sc_r, sc_l, sc_u, sc_s, List.length_nil, List.length_cons, Nat.reduceAdd, Nat.reduceLeDiff, Nat.zero_le, le4_0, le4_1, le4_2, le4_3, rz0, rz1, rzt, eq_self, fo_f, fo_a, fo_j, co_f, co_a, co_j, ao_f, ao_a, ao_j, zo_f, zo_a, zo_j, jo_f, jo_a, jo_j, al_f, al_a, al_j, fg_a, fg_j, ag_f, ag_j, jg_f, jg_a, fk_f, fk_a, fk_j, fi_a, fi_j, x_isIn, ha, hb, hc, hd, he, tI_0, tI_n0, if_true, if_false, ne_eq, not_true_eq_false, not_false_eq_true, and_self, Bool.false_eq_true, es, p1, p2, x_inlow k1]
              · simp only [z155_0, z155_1, z155_2, z155_3, z155_6, z155_9, z155_11, z155_12, z155_13, z155_14, z155_17, z155_20, z155_22, z155_23, z155_24, z155_25, z155_28, z155_31, z155_34, z155_35, z155_37, z155_40, z155_41, z155_44, z155_45, z155_47, z155_48, z155_50, z155_51, z155_53, z155_54, z155_56, z155_57, z155_61, z155_63, z155_66, z155_68, z155_71, z155_72, z155_74, z155_76, z155_79, z155_80, z155_81, z155_82, z155_83, z155_85, z155_88, z155_90, z155_91, z155_93, z155_94, z155_96, z155_99, z155_102, z155_104, z155_107, z155_109, z155_112, z155_114, z155_116, z155_118, z155_121, Option.bind_some, Option.toList_some, Option.toList_none, List.cons_append, List.nil_append, sc_i, sc_r, sc_l, sc_u, sc_s, List.length_nil, List.length_cons, Nat.reduceAdd, Nat.reduceLeDiff, Nat.zero_le, le4_0, le4_1, le4_2, le4_3, rz0, rz1, rzt, eq_self, fo_f, fo_a, fo_j, co_f, co_a, co_j, ao_f, ao_a, ao_j, zo_f, zo_a, zo_j, jo_f, jo_a, jo_j, al_f, al_a, al_j, fg_a, fg_j, ag_f, ag_j, jg_f, jg_a, fk_f, fk_a, fk_j, fi_a, fi_j, x_isDoor, x_mIn, mInC (lo := 0) (hi := 1) 0 1 rfl rfl, ha, hb, hc, hd, he, tI_0, tI_n0, if_true, if_false, ne_eq, not_true_eq_false, not_false_eq_true, and_self, Bool.false_eq_true, and_self, l1, x_low k1]
            · refine ⟨.long (lowR (mu (bse k) n) (pw 10 n) e), w, w, ?_, ?_, h⟩
              · rw [← eb] at es
                simp only [z79_0, z79_1, z79_2, z79_4, z79_7, z79_10, z79_11, z79_12, z79_14, z79_17, z79_20, z79_21, z79_22, z79_23, z79_26, z79_29, z79_32, z79_33, z79_35, z79_36, z79_37, z79_40, z79_43, z79_45, z79_46, z79_47, z79_50, z79_53, z79_56, z79_57, z79_59, z79_60, z79_61, z79_63, z79_65, z79_68, z79_70, z79_71, z79_74, z79_76, z79_77, z79_80, z79_82, z79_85, z79_86, z79_88, z79_89, z79_92, z79_94, z79_95, z79_98, z79_100, z79_103, Option.bind_some, Option.toList_some, Option.toList_none, List.cons_append, List.nil_append, sc_i, sc_r, sc_l, sc_u, sc_s, List.length_nil, List.length_cons, Nat.reduceAdd, Nat.reduceLeDiff, Nat.zero_le, le4_0, le4_1, le4_2, le4_3, rz0, rz1, rzt, eq_self, fo_f, fo_a, fo_j, co_f, co_a, co_j, ao_f, ao_a, ao_j, zo_f, zo_a, zo_j, jo_f, jo_a, jo_j, al_f, al_a, al_j, fg_a, fg_j, ag_f, ag_j, jg_f, jg_a, fk_f, fk_a, fk_j, fi_a, fi_j, x_isIn, ha, hb, hc, hd, he, hd0, tI_0, tI_n0, if_true, if_false, ne_eq, not_true_eq_false, not_false_eq_true, and_self, Bool.false_eq_true, es, p3, p4, x_inlow k2]
              · simp only [z155_0, z155_1, z155_2, z155_3, z155_6, z155_9, z155_11, z155_12, z155_13, z155_14, z155_17, z155_20, z155_22, z155_23, z155_24, z155_25, z155_28, z155_31, z155_34, z155_35, z155_37, z155_40, z155_41, z155_44, z155_45, z155_47, z155_48, z155_50, z155_51, z155_53, z155_54, z155_56, z155_57, z155_61, z155_63, z155_66, z155_68, z155_71, z155_72, z155_74, z155_76, z155_79, z155_80, z155_81, z155_82, z155_83, z155_85, z155_88, z155_90, z155_91, z155_93, z155_94, z155_96, z155_99, z155_102, z155_104, z155_107, z155_109, z155_112, z155_114, z155_116, z155_118, z155_121, Option.bind_some, Option.toList_some, Option.toList_none, List.cons_append, List.nil_append, sc_i, sc_r, sc_l, sc_u, sc_s, List.length_nil, List.length_cons, Nat.reduceAdd, Nat.reduceLeDiff, Nat.zero_le, le4_0, le4_1, le4_2, le4_3, rz0, rz1, rzt, eq_self, fo_f, fo_a, fo_j, co_f, co_a, co_j, ao_f, ao_a, ao_j, zo_f, zo_a, zo_j, jo_f, jo_a, jo_j, al_f, al_a, al_j, fg_a, fg_j, ag_f, ag_j, jg_f, jg_a, fk_f, fk_a, fk_j, fi_a, fi_j, x_isDoor, x_mIn, mInC (lo := 0) (hi := 1) 0 1 rfl rfl, ha, hb, hc, hd, he, hd0, tI_0, tI_n0, if_true, if_false, ne_eq, not_true_eq_false, not_false_eq_true, and_self, Bool.false_eq_true, and_self, l2, x_low k2]
          · refine ⟨.long (-1000000000000000002), w, w, ?_, ?_, h⟩
            · simp only [z79_0, z79_1, z79_2, z79_4, z79_7, z79_10, z79_11, z79_12, z79_14, z79_17, z79_20, z79_21, z79_22, z79_23, z79_26, z79_29, z79_32, z79_33, z79_35, z79_36, z79_37, z79_40, z79_43, z79_45, z79_46, z79_47, z79_50, z79_53, z79_56, z79_57, z79_59, z79_60, z79_61, z79_63, z79_65, z79_68, z79_70, z79_71, z79_74, z79_76, z79_77, z79_80, z79_82, z79_85, z79_86, z79_88, z79_89, z79_92, z79_94, z79_95, z79_98, z79_100, z79_103, Option.bind_some, Option.toList_some, Option.toList_none, List.cons_append, List.nil_append, sc_i, sc_r, sc_l, sc_u, sc_s, List.length_nil, List.length_cons, Nat.reduceAdd, Nat.reduceLeDiff, Nat.zero_le, le4_0, le4_1, le4_2, le4_3, rz0, rz1, rzt, eq_self, fo_f, fo_a, fo_j, co_f, co_a, co_j, ao_f, ao_a, ao_j, zo_f, zo_a, zo_j, jo_f, jo_a, jo_j, al_f, al_a, al_j, fg_a, fg_j, ag_f, ag_j, jg_f, jg_a, fk_f, fk_a, fk_j, fi_a, fi_j, x_isIn, ha, hb, hc, hd, he, tI_0, tI_n0, if_true, if_false, ne_eq, not_true_eq_false, not_false_eq_true, and_self, Bool.false_eq_true]
            · simp only [z155_0, z155_1, z155_2, z155_3, z155_6, z155_9, z155_11, z155_12, z155_13, z155_14, z155_17, z155_20, z155_22, z155_23, z155_24, z155_25, z155_28, z155_31, z155_34, z155_35, z155_37, z155_40, z155_41, z155_44, z155_45, z155_47, z155_48, z155_50, z155_51, z155_53, z155_54, z155_56, z155_57, z155_61, z155_63, z155_66, z155_68, z155_71, z155_72, z155_74, z155_76, z155_79, z155_80, z155_81, z155_82, z155_83, z155_85, z155_88, z155_90, z155_91, z155_93, z155_94, z155_96, z155_99, z155_102, z155_104, z155_107, z155_109, z155_112, z155_114, z155_116, z155_118, z155_121, Option.bind_some, Option.toList_some, Option.toList_none, List.cons_append, List.nil_append, sc_i, sc_r, sc_l, sc_u, sc_s, List.length_nil, List.length_cons, Nat.reduceAdd, Nat.reduceLeDiff, Nat.zero_le, le4_0, le4_1, le4_2, le4_3, rz0, rz1, rzt, eq_self, fo_f, fo_a, fo_j, co_f, co_a, co_j, ao_f, ao_a, ao_j, zo_f, zo_a, zo_j, jo_f, jo_a, jo_j, al_f, al_a, al_j, fg_a, fg_j, ag_f, ag_j, jg_f, jg_a, fk_f, fk_a, fk_j, fi_a, fi_j, x_isDoor, x_mIn, mInC (lo := 0) (hi := 1) 0 1 rfl rfl, ha, hb, hc, hd, he, tI_0, tI_n0, if_true, if_false, ne_eq, not_true_eq_false, not_false_eq_true, and_self, Bool.false_eq_true, and_self]
        · refine ⟨.long (-1000000000000000002), w, w, ?_, ?_, h⟩
          · simp only [z79_0, z79_1, z79_2, z79_4, z79_7, z79_10, z79_11, z79_12, z79_14, z79_17, z79_20, z79_21, z79_22, z79_23, z79_26, z79_29, z79_32, z79_33, z79_35, z79_36, z79_37, z79_40, z79_43, z79_45, z79_46, z79_47, z79_50, z79_53, z79_56, z79_57, z79_59, z79_60, z79_61, z79_63, z79_65, z79_68, z79_70, z79_71, z79_74, z79_76, z79_77, z79_80, z79_82, z79_85, z79_86, z79_88, z79_89, z79_92, z79_94, z79_95, z79_98, z79_100, z79_103, Option.bind_some, Option.toList_some, Option.toList_none, List.cons_append, List.nil_append, sc_i, sc_r, sc_l, sc_u, sc_s, List.length_nil, List.length_cons, Nat.reduceAdd, Nat.reduceLeDiff, Nat.zero_le, le4_0, le4_1, le4_2, le4_3, rz0, rz1, rzt, eq_self, fo_f, fo_a, fo_j, co_f, co_a, co_j, ao_f, ao_a, ao_j, zo_f, zo_a, zo_j, jo_f, jo_a, jo_j, al_f, al_a, al_j, fg_a, fg_j, ag_f, ag_j, jg_f, jg_a, fk_f, fk_a, fk_j, fi_a, fi_j, x_isIn, ha, hb, hc, hd, tI_0, tI_n0, if_true, if_false, ne_eq, not_true_eq_false, not_false_eq_true, and_self, Bool.false_eq_true]
          · simp only [z155_0, z155_1, z155_2, z155_3, z155_6, z155_9, z155_11, z155_12, z155_13, z155_14, z155_17, z155_20, z155_22, z155_23, z155_24, z155_25, z155_28, z155_31, z155_34, z155_35, z155_37, z155_40, z155_41, z155_44, z155_45, z155_47, z155_48, z155_50, z155_51, z155_53, z155_54, z155_56, z155_57, z155_61, z155_63, z155_66, z155_68, z155_71, z155_72, z155_74, z155_76, z155_79, z155_80, z155_81, z155_82, z155_83, z155_85, z155_88, z155_90, z155_91, z155_93, z155_94, z155_96, z155_99, z155_102, z155_104, z155_107, z155_109, z155_112, z155_114, z155_116, z155_118, z155_121, Option.bind_some, Option.toList_some, Option.toList_none, List.cons_append, List.nil_append, sc_i, sc_r, sc_l, sc_u, sc_s, List.length_nil, List.length_cons, Nat.reduceAdd, Nat.reduceLeDiff, Nat.zero_le, le4_0, le4_1, le4_2, le4_3, rz0, rz1, rzt, eq_self, fo_f, fo_a, fo_j, co_f, co_a, co_j, ao_f, ao_a, ao_j, zo_f, zo_a, zo_j, jo_f, jo_a, jo_j, al_f, al_a, al_j, fg_a, fg_j, ag_f, ag_j, jg_f, jg_a, fk_f, fk_a, fk_j, fi_a, fi_j, x_isDoor, x_mIn, mInC (lo := 0) (hi := 1) 0 1 rfl rfl, ha, hb, hc, hd, tI_0, tI_n0, if_true, if_false, ne_eq, not_true_eq_false, not_false_eq_true, and_self, Bool.false_eq_true, and_self]
      · refine ⟨.long (-1000000000000000002), w, w, ?_, ?_, h⟩
        · simp only [z79_0, z79_1, z79_2, z79_4, z79_7, z79_10, z79_11, z79_12, z79_14, z79_17, z79_20, z79_21, z79_22, z79_23, z79_26, z79_29, z79_32, z79_33, z79_35, z79_36, z79_37, z79_40, z79_43, z79_45, z79_46, z79_47, z79_50, z79_53, z79_56, z79_57, z79_59, z79_60, z79_61, z79_63, z79_65, z79_68, z79_70, z79_71, z79_74, z79_76, z79_77, z79_80, z79_82, z79_85, z79_86, z79_88, z79_89, z79_92, z79_94, z79_95, z79_98, z79_100, z79_103, Option.bind_some, Option.toList_some, Option.toList_none, List.cons_append, List.nil_append, sc_i, sc_r, sc_l, sc_u, sc_s, List.length_nil, List.length_cons, Nat.reduceAdd, Nat.reduceLeDiff, Nat.zero_le, le4_0, le4_1, le4_2, le4_3, rz0, rz1, rzt, eq_self, fo_f, fo_a, fo_j, co_f, co_a, co_j, ao_f, ao_a, ao_j, zo_f, zo_a, zo_j, jo_f, jo_a, jo_j, al_f, al_a, al_j, fg_a, fg_j, ag_f, ag_j, jg_f, jg_a, fk_f, fk_a, fk_j, fi_a, fi_j, x_isIn, ha, hb, hc, tI_0, tI_n0, if_true, if_false, ne_eq, not_true_eq_false, not_false_eq_true, and_self, Bool.false_eq_true]
        · simp only [z155_0, z155_1, z155_2, z155_3, z155_6, z155_9, z155_11, z155_12, z155_13, z155_14, z155_17, z155_20, z155_22, z155_23, z155_24, z155_25, z155_28, z155_31, z155_34, z155_35, z155_37, z155_40, z155_41, z155_44, z155_45, z155_47, z155_48, z155_50, z155_51, z155_53, z155_54, z155_56, z155_57, z155_61, z155_63, z155_66, z155_68, z155_71, z155_72, z155_74, z155_76, z155_79, z155_80, z155_81, z155_82, z155_83, z155_85, z155_88, z155_90, z155_91, z155_93, z155_94, z155_96, z155_99, z155_102, z155_104, z155_107, z155_109, z155_112, z155_114, z155_116, z155_118, z155_121, Option.bind_some, Option.toList_some, Option.toList_none, List.cons_append, List.nil_append, sc_i, sc_r, sc_l, sc_u, sc_s, List.length_nil, List.length_cons, Nat.reduceAdd, Nat.reduceLeDiff, Nat.zero_le, le4_0, le4_1, le4_2, le4_3, rz0, rz1, rzt, eq_self, fo_f, fo_a, fo_j, co_f, co_a, co_j, ao_f, ao_a, ao_j, zo_f, zo_a, zo_j, jo_f, jo_a, jo_j, al_f, al_a, al_j, fg_a, fg_j, ag_f, ag_j, jg_f, jg_a, fk_f, fk_a, fk_j, fi_a, fi_j, x_isDoor, ha, hb, hc, tI_0, tI_n0, if_true, if_false, ne_eq, not_true_eq_false, not_false_eq_true, and_self, Bool.false_eq_true, and_false]
    · refine ⟨.long (-1000000000000000002), w, w, ?_, ?_, h⟩
      · simp only [z79_0, z79_1, z79_2, z79_4, z79_7, z79_10, z79_11, z79_12, z79_14, z79_17, z79_20, z79_21, z79_22, z79_23, z79_26, z79_29, z79_32, z79_33, z79_35, z79_36, z79_37, z79_40, z79_43, z79_45, z79_46, z79_47, z79_50, z79_53, z79_56, z79_57, z79_59, z79_60, z79_61, z79_63, z79_65, z79_68, z79_70, z79_71, z79_74, z79_76, z79_77, z79_80, z79_82, z79_85, z79_86, z79_88, z79_89, z79_92, z79_94, z79_95, z79_98, z79_100, z79_103, Option.bind_some, Option.toList_some, Option.toList_none, List.cons_append, List.nil_append, sc_i, sc_r, sc_l, sc_u, sc_s, List.length_nil, List.length_cons, Nat.reduceAdd, Nat.reduceLeDiff, Nat.zero_le, le4_0, le4_1, le4_2, le4_3, rz0, rz1, rzt, eq_self, fo_f, fo_a, fo_j, co_f, co_a, co_j, ao_f, ao_a, ao_j, zo_f, zo_a, zo_j, jo_f, jo_a, jo_j, al_f, al_a, al_j, fg_a, fg_j, ag_f, ag_j, jg_f, jg_a, fk_f, fk_a, fk_j, fi_a, fi_j, x_isIn, ha, hb, tI_0, tI_n0, if_true, if_false, ne_eq, not_true_eq_false, not_false_eq_true, and_self, Bool.false_eq_true]
      · simp only [z155_0, z155_1, z155_2, z155_3, z155_6, z155_9, z155_11, z155_12, z155_13, z155_14, z155_17, z155_20, z155_22, z155_23, z155_24, z155_25, z155_28, z155_31, z155_34, z155_35, z155_37, z155_40, z155_41, z155_44, z155_45, z155_47, z155_48, z155_50, z155_51, z155_53, z155_54, z155_56, z155_57, z155_61, z155_63, z155_66, z155_68, z155_71, z155_72, z155_74, z155_76, z155_79, z155_80, z155_81, z155_82, z155_83, z155_85, z155_88, z155_90, z155_91, z155_93, z155_94, z155_96, z155_99, z155_102, z155_104, z155_107, z155_109, z155_112, z155_114, z155_116, z155_118, z155_121, Option.bind_some, Option.toList_some, Option.toList_none, List.cons_append, List.nil_append, sc_i, sc_r, sc_l, sc_u, sc_s, List.length_nil, List.length_cons, Nat.reduceAdd, Nat.reduceLeDiff, Nat.zero_le, le4_0, le4_1, le4_2, le4_3, rz0, rz1, rzt, eq_self, fo_f, fo_a, fo_j, co_f, co_a, co_j, ao_f, ao_a, ao_j, zo_f, zo_a, zo_j, jo_f, jo_a, jo_j, al_f, al_a, al_j, fg_a, fg_j, ag_f, ag_j, jg_f, jg_a, fk_f, fk_a, fk_j, fi_a, fi_j, x_isDoor, hb, tI_0, tI_n0, if_true, if_false, ne_eq, not_true_eq_false, not_false_eq_true, and_self, Bool.false_eq_true, false_and, and_false]
  · refine ⟨.long (-1000000000000000002), w, w, ?_, ?_, h⟩
    · simp only [z79_0, z79_1, z79_2, z79_4, z79_7, z79_10, z79_11, z79_12, z79_14, z79_17, z79_20, z79_21, z79_22, z79_23, z79_26, z79_29, z79_32, z79_33, z79_35, z79_36, z79_37, z79_40, z79_43, z79_45, z79_46, z79_47, z79_50, z79_53, z79_56, z79_57, z79_59, z79_60, z79_61, z79_63, z79_65, z79_68, z79_70, z79_71, z79_74, z79_76, z79_77, z79_80, z79_82, z79_85, z79_86, z79_88, z79_89, z79_92, z79_94, z79_95, z79_98, z79_100, z79_103, Option.bind_some, Option.toList_some, Option.toList_none, List.cons_append, List.nil_append, sc_i, sc_r, sc_l, sc_u, sc_s, List.length_nil, List.length_cons, Nat.reduceAdd, Nat.reduceLeDiff, Nat.zero_le, le4_0, le4_1, le4_2, le4_3, rz0, rz1, rzt, eq_self, fo_f, fo_a, fo_j, co_f, co_a, co_j, ao_f, ao_a, ao_j, zo_f, zo_a, zo_j, jo_f, jo_a, jo_j, al_f, al_a, al_j, fg_a, fg_j, ag_f, ag_j, jg_f, jg_a, fk_f, fk_a, fk_j, fi_a, fi_j, x_isIn, ha, tI_0, tI_n0, if_true, if_false, ne_eq, not_true_eq_false, not_false_eq_true, and_self, Bool.false_eq_true]
    · simp only [z155_0, z155_1, z155_2, z155_3, z155_6, z155_9, z155_11, z155_12, z155_13, z155_14, z155_17, z155_20, z155_22, z155_23, z155_24, z155_25, z155_28, z155_31, z155_34, z155_35, z155_37, z155_40, z155_41, z155_44, z155_45, z155_47, z155_48, z155_50, z155_51, z155_53, z155_54, z155_56, z155_57, z155_61, z155_63, z155_66, z155_68, z155_71, z155_72, z155_74, z155_76, z155_79, z155_80, z155_81, z155_82, z155_83, z155_85, z155_88, z155_90, z155_91, z155_93, z155_94, z155_96, z155_99, z155_102, z155_104, z155_107, z155_109, z155_112, z155_114, z155_116, z155_118, z155_121, Option.bind_some, Option.toList_some, Option.toList_none, List.cons_append, List.nil_append, sc_i, sc_r, sc_l, sc_u, sc_s, List.length_nil, List.length_cons, Nat.reduceAdd, Nat.reduceLeDiff, Nat.zero_le, le4_0, le4_1, le4_2, le4_3, rz0, rz1, rzt, eq_self, fo_f, fo_a, fo_j, co_f, co_a, co_j, ao_f, ao_a, ao_j, zo_f, zo_a, zo_j, jo_f, jo_a, jo_j, al_f, al_a, al_j, fg_a, fg_j, ag_f, ag_j, jg_f, jg_a, fk_f, fk_a, fk_j, fi_a, fi_j, x_isDoor, ha, tI_0, tI_n0, if_true, if_false, ne_eq, not_true_eq_false, not_false_eq_true, and_self, Bool.false_eq_true, false_and]
