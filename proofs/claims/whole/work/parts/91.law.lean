/-! the law's loop, and its end -/
theorem lwX {X : Scr} {w : AW} {i : Nat} {y : Int32} (h : SI w) (hc : X.2 i &&& 31 = y) (hy : y.toInt < 0 ∨ 26 < y.toInt) : LPs X i w := by
  have q6 : nI i + 6 = nI (i + 6) := nI_k (k := 6)
  unfold LPs
  rw [hc]
  refine ⟨w, ?_, h⟩
  simp only [z168_33d, hy, z168_1020, z168_1023, q6]
theorem lw_one {X : Scr} {w : AW} {i : Nat} (h : SI w) (hL : X.1 ≤ 3072) (hi : i + 6 ≤ X.1) : LPs X i w := by
  have hp := pk_and (X.2 i) 5 (m := 31) (by decide)
  obtain ⟨y, hy⟩ : ∃ y, y = (X.2 i).toBitVec.toNat % 2 ^ 5 := ⟨_, rfl⟩
  have hy32 : y < 32 := by rw [hy]; exact Nat.mod_lt _ (by decide)
  rw [← hy] at hp
  match y, hy32, hp with
  | 0, _, hp => exact lw0 h hL hi hp
  | 1, _, hp => exact lw1 h hL hi hp
  | 2, _, hp => exact lw2 h hL hi hp
  | 3, _, hp => exact lw3 h hL hi hp
  | 4, _, hp => exact lw4 h hL hi hp
  | 5, _, hp => exact lw5 h hL hi hp
  | 6, _, hp => exact lw6 h hL hi hp
  | 7, _, hp => exact lw7 h hL hi hp
  | 8, _, hp => exact lw8 h hL hi hp
  | 9, _, hp => exact lw9 h hL hi hp
  | 10, _, hp => exact lw10 h hL hi hp
  | 11, _, hp => exact lw11 h hL hi hp
  | 12, _, hp => exact lw12 h hL hi hp
  | 13, _, hp => exact lw13 h hL hi hp
  | 14, _, hp => exact lw14 h hL hi hp
  | 15, _, hp => exact lw15 h hL hi hp
  | 16, _, hp => exact lw16 h hL hi hp
  | 17, _, hp => exact lw17 h hL hi hp
  | 18, _, hp => exact lw18 h hL hi hp
  | 19, _, hp => exact lw19 h hL hi hp
  | 20, _, hp => exact lw20 h hL hi hp
  | 21, _, hp => exact lw21 h hL hi hp
  | 22, _, hp => exact lw22 h hL hi hp
  | 23, _, hp => exact lw23 h hL hi hp
  | 24, _, hp => exact lw24 h hL hi hp
  | 25, _, hp => exact lw25 h hL hi hp
  | 26, _, hp => exact lw26 h hL hi hp
  | y + 27, hlt, hp => exact lwX h hp (Or.inr (by rw [nI_toInt (by omega)]; omega))
theorem len6 {L i : Nat} (hL : L ≤ 3072) (hi : i ≤ 3072) : (nI i > nI L - 6) = ¬ (i + 6 ≤ L) := by
  have h6 : (nI L - 6).toInt = (L : Int) - 6 := by
    by_cases q : 6 ≤ L
    · rw [show (6 : Int32) = nI 6 from rfl, pk_sub q, nI_toInt (by omega)]
      omega
    · exact (by decide +kernel : ∀ L, L < 6 → (nI L - 6).toInt = (L : Int) - 6) L (by omega)
  apply propext
  show nI L - 6 < nI i ↔ _
  rw [Int32.lt_iff_toInt_lt, h6, nI_toInt (by omega)]
  omega
theorem lw_loop {X : Scr} (hL : X.1 ≤ 3072) : ∀ (n i : Nat), X.1 + 6 ≤ i + 6 * n + 6 → i ≤ 3072 → ∀ w : AW, SI w → ∃ w', Z X 168 18 [.retAddr 0, .ref 0, .ref 64, .int (nI i)] [] w = some (some (.int 1), w') ∧ SI w' := by
  intro n
  induction n with
  | zero =>
    intro i hn hi w h
    have e : ¬ (i + 6 ≤ X.1) := by omega
    have hl := len6 hL hi
    have hx : Int32.ofNat X.1 = nI X.1 := rfl
    refine ⟨w, ?_, h⟩
    rw [z168_18]
    simp only [z168_19, z168_20, z168_21, z168_23, z168_24, z168_1026, z168_1027, Option.bind_some, Option.toList_some, Option.toList_none, List.cons_append, List.nil_append, sc_i, sc_r, sc_l, sc_u, sc_s, List.length_nil, List.length_cons, Nat.reduceAdd, Nat.reduceLeDiff, Nat.zero_le, le4_0, le4_1, le4_2, le4_3, rz0, rz1, rzt, eq_self, hx, hl, e, not_false_eq_true, if_true]
  | succ n ih =>
    intro i hn hi w h
    have hl := len6 hL hi
    have hx : Int32.ofNat X.1 = nI X.1 := rfl
    by_cases e : i + 6 ≤ X.1
    · obtain ⟨w1, a1, a2⟩ := lw_one h hL e
      obtain ⟨w', b1, b2⟩ := ih (i + 6) (by omega) (by omega) w1 a2
      refine ⟨w', ?_, b2⟩
      rw [← b1, ← a1, z168_18]
      simp only [z168_19, z168_20, z168_21, z168_23, z168_24, z168_27, z168_28, z168_29, z168_29s, z168_30, z168_32, Option.bind_some, Option.toList_some, Option.toList_none, List.cons_append, List.nil_append, sc_i, sc_r, sc_l, sc_u, sc_s, List.length_nil, List.length_cons, Nat.reduceAdd, Nat.reduceLeDiff, Nat.zero_le, le4_0, le4_1, le4_2, le4_3, rz0, rz1, rzt, eq_self, hx, hl, e, not_true_eq_false, if_false, inB_s (show i < X.1 by omega) hL, c_s (show i < 3072 by omega)]
    · refine ⟨w, ?_, h⟩
      rw [z168_18]
      simp only [z168_19, z168_20, z168_21, z168_23, z168_24, z168_1026, z168_1027, Option.bind_some, Option.toList_some, Option.toList_none, List.cons_append, List.nil_append, sc_i, sc_r, sc_l, sc_u, sc_s, List.length_nil, List.length_cons, Nat.reduceAdd, Nat.reduceLeDiff, Nat.zero_le, le4_0, le4_1, le4_2, le4_3, rz0, rz1, rzt, eq_self, hx, hl, e, not_false_eq_true, if_true]
theorem law_Z {L : Nat} {xs : Nat → Int32} (hL : L ≤ 3072) : ∃ w, Z (L, xs) 168 0 [.retAddr 0, uns, uns, uns] [] [] = some (some (.int 1), w) ∧ OK w := by
  obtain ⟨w0, h0, e0⟩ := x_start (X := (L, xs))
  obtain ⟨w, e1, h1⟩ := lw_loop (X := (L, xs)) hL 600 0 (by show L + 6 ≤ 0 + 6 * 600 + 6; omega) (by decide) w0 h0
  exact ⟨w, e0.trans e1, h1.1⟩
