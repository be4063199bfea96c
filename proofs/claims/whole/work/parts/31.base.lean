/-! More algebra; small static methods -/
theorem fok_eq {w : AW} {f c k : Nat} : fok w f c k = (cok w f c && fokk w f k) := by
  unfold fok cok fokk
  cases h : w[f]? with
  | none => rfl
  | some x => cases x with
    | inl y => rfl
    | inr o => rfl
theorem cok_sh {w w' : AW} {f ci : Nat} (h : shw w' f = shw w f) : cok w' f ci = cok w f ci := by
  unfold shw at h
  unfold cok
  cases h1 : w[f]? with
  | none => rw [h1] at h; cases h2 : w'[f]? with
    | none => rfl
    | some y => rw [h2] at h; simp at h
  | some x => rw [h1] at h; cases h2 : w'[f]? with
    | none => rw [h2] at h; simp at h
    | some y =>
      rw [h2] at h
      simp only [Option.map_some, Option.some.injEq] at h
      obtain ⟨t, n, q | q | q⟩ | ⟨c, l⟩ := x <;> obtain ⟨t', n', q' | q' | q'⟩ | ⟨c', l'⟩ := y <;> simp [shp] at h <;> first | rfl | (obtain ⟨h1, h2⟩ := h; simp [h1])
theorem co_f {w : AW} {f k f' c : Nat} {v : Value} : cok (fset w f k v) f' c = cok w f' c := cok_sh shw_f
theorem co_a {w : AW} {a f' c : Nat} {g : Nat → Int32} : cok (aset w a g) f' c = cok w f' c := cok_sh shw_a
theorem co_j {w : AW} {a f' c : Nat} {g : Nat → Int64} : cok (jset w a g) f' c = cok w f' c := cok_sh shw_j
theorem fo_f {w : AW} {f k f' c k' : Nat} {v : Value} : fok (fset w f k v) f' c k' = fok w f' c k' := by rw [fok_eq, fok_eq, co_f, fk_f]
theorem fo_a {w : AW} {a f' c k' : Nat} {g : Nat → Int32} : fok (aset w a g) f' c k' = fok w f' c k' := by rw [fok_eq, fok_eq, co_a, fk_a]
theorem fo_j {w : AW} {a f' c k' : Nat} {g : Nat → Int64} : fok (jset w a g) f' c k' = fok w f' c k' := by rw [fok_eq, fok_eq, co_j, fk_j]
theorem fi_v {w : AW} {f k : Nat} {x : Int32} (h : fget w f k = .int x) : fI w f k = x := by unfold fI; rw [h]
theorem fi_at {w w' : AW} {f k : Nat} (h : fget w' f k = fget w f k) : fI w' f k = fI w f k := by unfold fI; rw [h]
theorem fi_a {w : AW} {a f k : Nat} {g : Nat → Int32} : fI (aset w a g) f k = fI w f k := fi_at fg_a
theorem fi_j {w : AW} {a f k : Nat} {g : Nat → Int64} : fI (jset w a g) f k = fI w f k := fi_at fg_j
theorem fi_s {w : AW} {f k : Nat} {x : Int32} (h : fokk w f k = true) : fI (fset w f k (.int x)) f k = x := fi_v (fg_s h)
theorem fi_n {w : AW} {f k f' k' : Nat} {v : Value} (h : ¬ (f = f' ∧ k = k')) : fI (fset w f k v) f' k' = fI w f' k' := fi_at (fg_n h)
theorem rz0 : ((0 : Int32) == 0 || (0 : Int32) == 1) = true := by decide
theorem rz1 : ((1 : Int32) == 0 || (1 : Int32) == 1) = true := by decide
theorem nf1 : nf 1 = 7 := rfl
/-- a truth as an int -/
def tI (p : Prop) [Decidable p] : Int32 := if p then 1 else 0
theorem rzt {p : Prop} [Decidable p] : (tI p == 0 || tI p == 1) = true := by
  unfold tI
  split <;> decide
theorem tI_t {p : Prop} [Decidable p] (h : p) : tI p = 1 := if_pos h
theorem tI_f {p : Prop} [Decidable p] (h : ¬ p) : tI p = 0 := if_neg h
/-- bit k of s -/
def bI (s k : Int32) : Prop := (s >>> (k &&& 31)) &&& 1 = 1
noncomputable def bTI (s k : Int32) : Int32 := @ite _ (bI s k) (Classical.propDecidable _) 1 0
theorem i32_nlt {x y : Int32} : ¬ x < y ↔ y ≤ x := by rw [Int32.lt_iff_toInt_lt, Int32.le_iff_toInt_le]; omega
theorem i32_nle {x y : Int32} : ¬ x ≤ y ↔ y < x := by rw [Int32.lt_iff_toInt_lt, Int32.le_iff_toInt_le]; omega
theorem i64_nlt {x y : Int64} : ¬ x < y ↔ y ≤ x := by rw [Int64.lt_iff_toInt_lt, Int64.le_iff_toInt_le]; omega
theorem i64_nle {x y : Int64} : ¬ x ≤ y ↔ y < x := by rw [Int64.lt_iff_toInt_lt, Int64.le_iff_toInt_le]; omega
theorem lg_lt {x y : Int64} : lg_cmp x y < 0 ↔ x < y := by
  unfold lg_cmp
  by_cases h1 : x > y
  · rw [if_pos h1]
    exact ⟨fun h => absurd h (by decide), fun h => absurd h (i64_nlt.mpr (by
      have := Int64.lt_iff_toInt_lt.mp h1
      exact Int64.le_iff_toInt_le.mpr (by omega)))⟩
  · rw [if_neg h1]
    by_cases h2 : x = y
    · rw [if_pos h2]
      subst h2
      exact ⟨fun h => absurd h (by decide), fun h => absurd h h1⟩
    · rw [if_neg h2]
      refine ⟨fun _ => ?_, fun _ => by decide⟩
      have h3 := Int64.le_iff_toInt_le.mp (i64_nlt.mp h1)
      have h4 : x.toInt ≠ y.toInt := fun q => h2 (Int64.toInt_inj.mp q)
      exact Int64.lt_iff_toInt_lt.mpr (by omega)
theorem lg_gt {x y : Int64} : lg_cmp x y > 0 ↔ x > y := by
  unfold lg_cmp
  by_cases h1 : x > y
  · rw [if_pos h1]
    exact ⟨fun _ => h1, fun _ => by decide⟩
  · rw [if_neg h1]
    by_cases h2 : x = y
    · rw [if_pos h2]
      exact ⟨fun h => absurd h (by decide), fun h => absurd h h1⟩
    · rw [if_neg h2]
      exact ⟨fun h => absurd h (by decide), fun h => absurd h h1⟩
theorem lg_eq {x y : Int64} : lg_cmp x y = 0 ↔ x = y := by
  unfold lg_cmp
  by_cases h1 : x > y
  · rw [if_pos h1]
    refine ⟨fun h => absurd h (by decide), fun h => ?_⟩
    subst h
    exact absurd h1 (i64_nlt.mpr (Int64.le_iff_toInt_le.mpr (Int.le_refl _)))
  · rw [if_neg h1]
    by_cases h2 : x = y
    · rw [if_pos h2]; exact ⟨fun _ => h2, fun _ => rfl⟩
    · rw [if_neg h2]
      exact ⟨fun h => absurd h (by decide), fun h => absurd h h2⟩
theorem x_isIn {X : Scr} {a b c : Int32} {w : AW} : Z X 12 0 [.int a, .int b, .int c] [] w = some (some (.int (tI (b ≤ a ∧ a ≤ c))), w) := by
  simp only [z12_0, z12_1, z12_2, z12_5, z12_6, z12_7, z12_10, z12_11, z12_14, z12_15, Option.bind_some, Option.toList_some, Option.toList_none, List.cons_append, List.nil_append, sc_i, sc_r, sc_l, sc_u, sc_s, List.length_nil, List.length_cons, Nat.reduceAdd, Nat.reduceLeDiff, Nat.zero_le, le4_0, le4_1, le4_2, le4_3, rz0, rz1, rzt, eq_self]
  by_cases h1 : a < b
  · rw [if_pos h1, tI_f (fun q => i32_nle.mpr h1 q.1)]
  · rw [if_neg h1]
    by_cases h2 : a > c
    · rw [if_pos h2, tI_f (fun q => i32_nle.mpr h2 q.2)]
    · rw [if_neg h2, tI_t ⟨i32_nlt.mp h1, i32_nlt.mp h2⟩]
theorem x_isKin {X : Scr} {a : Int32} {w : AW} : Z X 11 0 [.int a] [] w = some (some (.int (tI (0 ≤ a ∧ a < 8))), w) := by
  simp only [z11_0, z11_1, z11_4, z11_5, z11_7, z11_10, z11_11, z11_14, z11_15, Option.bind_some, Option.toList_some, Option.toList_none, List.cons_append, List.nil_append, sc_i, sc_r, sc_l, sc_u, sc_s, List.length_nil, List.length_cons, Nat.reduceAdd, Nat.reduceLeDiff, Nat.zero_le, le4_0, le4_1, le4_2, le4_3, rz0, rz1, rzt, eq_self]
  by_cases h1 : a < 0
  · rw [if_pos h1, tI_f (fun q => i32_nle.mpr h1 q.1)]
  · rw [if_neg h1]
    by_cases h2 : a ≥ 8
    · rw [if_pos h2, tI_f (fun q => i32_nlt.mpr h2 q.2)]
    · rw [if_neg h2, tI_t ⟨i32_nlt.mp h1, i32_nle.mp h2⟩]
theorem x_isOf {X : Scr} {s k : Int32} {w : AW} (h0 : 0 ≤ k) (h30 : k ≤ 30) : Z X 36 0 [.int s, .int k] [] w = some (some (.int (tI ((s >>> (k &&& 31)) &&& 1 = 1))), w) := by
  simp only [z36_0, z36_1, z36_4, z36_5, z36_7, z36_10, z36_11, z36_12, z36_13, z36_14, z36_15, z36_16, z36_19, z36_20, z36_23, z36_24, Option.bind_some, Option.toList_some, Option.toList_none, List.cons_append, List.nil_append, sc_i, sc_r, sc_l, sc_u, sc_s, List.length_nil, List.length_cons, Nat.reduceAdd, Nat.reduceLeDiff, Nat.zero_le, le4_0, le4_1, le4_2, le4_3, rz0, rz1, rzt, eq_self]
  rw [if_neg (i32_nlt.mpr h0), if_neg (i32_nlt.mpr h30)]
  by_cases h : (s >>> (k &&& 31)) &&& 1 = 1
  · rw [if_neg (fun q => q h), tI_t h]
  · rw [if_pos h, tI_f h]
theorem x_isOfN {X : Scr} {s k : Int32} {w : AW} (h0 : k < 0 ∨ 30 < k) : Z X 36 0 [.int s, .int k] [] w = some (some (.int 0), w) := by
  simp only [z36_0, z36_1, z36_4, z36_5, z36_7, z36_10, z36_11, z36_12, z36_13, z36_14, z36_15, z36_16, z36_19, z36_20, z36_23, z36_24, Option.bind_some, Option.toList_some, Option.toList_none, List.cons_append, List.nil_append, sc_i, sc_r, sc_l, sc_u, sc_s, List.length_nil, List.length_cons, Nat.reduceAdd, Nat.reduceLeDiff, Nat.zero_le, le4_0, le4_1, le4_2, le4_3, rz0, rz1, rzt, eq_self]
  rcases h0 with h | h
  · rw [if_pos h]
  · by_cases h1 : k < 0
    · rw [if_pos h1]
    · rw [if_neg h1, if_pos h]
theorem x_bal {X : Scr} {a : Int32} {w : AW} : Z X 43 0 [.int a] [] w = some (some (.int (if a ≤ 10 then 0 else a - 10)), w) := by
  simp only [z43_0, z43_1, z43_3, z43_6, z43_7, z43_9, z43_10, z43_13, z43_14, Option.bind_some, Option.toList_some, Option.toList_none, List.cons_append, List.nil_append, sc_i, sc_r, sc_l, sc_u, sc_s, List.length_nil, List.length_cons, Nat.reduceAdd, Nat.reduceLeDiff, Nat.zero_le, le4_0, le4_1, le4_2, le4_3, rz0, rz1, rzt, eq_self]
  by_cases h1 : a ≤ 10
  · rw [if_pos h1, if_pos h1]
  · rw [if_neg h1, if_neg h1]
theorem x_mIn {X : Scr} {a b c : Int64} {w : AW} : Z X 98 0 [.long a, sec, .long b, sec, .long c, sec] [] w = some (some (.int (tI (b ≤ a ∧ a ≤ c))), w) := by
  simp only [z98_0, z98_1, z98_2, z98_3, z98_6, z98_7, z98_9, z98_10, z98_13, z98_14, z98_17, z98_18, Option.bind_some, Option.toList_some, Option.toList_none, List.cons_append, List.nil_append, sc_i, sc_r, sc_l, sc_u, sc_s, List.length_nil, List.length_cons, Nat.reduceAdd, Nat.reduceLeDiff, Nat.zero_le, le4_0, le4_1, le4_2, le4_3, rz0, rz1, rzt, eq_self]
  by_cases h1 : a < b
  · rw [if_pos (lg_lt.mpr h1), tI_f (fun q => i64_nle.mpr h1 q.1)]
  · rw [if_neg (fun q => h1 (lg_lt.mp q))]
    by_cases h2 : a > c
    · rw [if_pos (lg_gt.mpr h2), tI_f (fun q => i64_nle.mpr h2 q.2)]
    · rw [if_neg (fun q => h2 (lg_gt.mp q)), tI_t ⟨i64_nlt.mp h1, i64_nlt.mp h2⟩]
theorem x_mIsKin {X : Scr} {a : Int32} {w : AW} : Z X 97 0 [.int a] [] w = some (some (.int (tI (0 ≤ a ∧ a < 8))), w) := by
  have h : tI ((0 : Int64) ≤ a.toInt64 ∧ a.toInt64 ≤ 7) = tI (0 ≤ a ∧ a < 8) := by
    have e1 : (0 : Int64) ≤ a.toInt64 ↔ 0 ≤ a := by rw [show (0 : Int64) = (0 : Int32).toInt64 from rfl]; exact Int32.toInt64_le
    have e2 : a.toInt64 ≤ 7 ↔ a < 8 := by
      rw [show (7 : Int64) = (7 : Int32).toInt64 from rfl, Int32.toInt64_le, Int32.le_iff_toInt_le, Int32.lt_iff_toInt_lt, show (7 : Int32).toInt = 7 from rfl, show (8 : Int32).toInt = 8 from rfl]
      omega
    unfold tI
    simp only [e1, e2]
  simp only [z97_0, z97_1, z97_2, z97_3, z97_6, z97_9, Option.bind_some, Option.toList_some, Option.toList_none, List.cons_append, List.nil_append, sc_i, sc_r, sc_l, sc_u, sc_s, List.length_nil, List.length_cons, Nat.reduceAdd, Nat.reduceLeDiff, Nat.zero_le, le4_0, le4_1, le4_2, le4_3, rz0, rz1, rzt, eq_self, x_mIn]
  rw [h]
theorem x_mHas {X : Scr} {s k : Int32} {w : AW} : Z X 103 0 [.int s, .int k] [] w = some (some (.int (tI ((s >>> (k &&& 31)) &&& 1 = 1))), w) := by
  simp only [z103_0, z103_1, z103_2, z103_3, z103_4, z103_5, z103_6, z103_9, z103_10, z103_13, z103_14, Option.bind_some, Option.toList_some, Option.toList_none, List.cons_append, List.nil_append, sc_i, sc_r, sc_l, sc_u, sc_s, List.length_nil, List.length_cons, Nat.reduceAdd, Nat.reduceLeDiff, Nat.zero_le, le4_0, le4_1, le4_2, le4_3, rz0, rz1, rzt, eq_self]
  by_cases h : (s >>> (k &&& 31)) &&& 1 = 1
  · rw [if_neg (fun q => q h), tI_t h]
  · rw [if_pos h, tI_f h]
