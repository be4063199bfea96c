/-! oldestOf of the reference; both are the oldest -/
def oldM (ag : Nat → Int32) (s : Int32) : Nat → Int32 → Int32
  | 0, b => b
  | n + 1, b => oldM ag s n (if bq s n = true ∧ (b < 0 ∨ ag n ≥ ag b.toNatClampNeg) then nI n else b)
def kM1 : Nat → Int32
  | 0 => -1
  | n + 1 => nI n
theorem kM1_s {n : Nat} : kM1 (n + 1) + (-1) = kM1 n := by
  cases n with
  | zero => decide
  | succ n => exact pk_m1 n
theorem x_mHasN {X : Scr} {s : Int32} {j : Nat} {w : AW} : Z X 103 0 [.int s, .int (nI j)] [] w = some (some (.int (tI (bq s j))), w) := by
  rw [x_mHas, tI_c bit_iff.symm]
theorem x_moldLoop {X : Scr} {w : AW} {s : Int32} (h : OK w) : ∀ (n : Nat), n ≤ 8 → ∀ (b : Int32), (b = -6 ∨ ∃ j, j < 8 ∧ b = nI j) → Z X 117 6 [.ref 64, .int s, .int b, .int (kM1 n)] [] w = some (some (.int (oldM (aget w 65) s n b)), w) := by
  intro n
  induction n with
  | zero =>
    intro hn b hb
    have e : kM1 0 < 0 := by decide
    rw [z117_6]
    simp only [z117_0, z117_2, z117_3, z117_5, z117_7, z117_10, z117_11, z117_12, z117_15, z117_18, z117_19, z117_22, z117_23, z117_26, z117_27, z117_28, z117_29, z117_32, z117_33, z117_34, z117_37, z117_38, z117_41, z117_42, z117_43, z117_46, z117_49, z117_50, Option.bind_some, Option.toList_some, Option.toList_none, List.cons_append, List.nil_append, sc_i, sc_r, sc_l, sc_u, sc_s, List.length_nil, List.length_cons, Nat.reduceAdd, Nat.reduceLeDiff, Nat.zero_le, le4_0, le4_1, le4_2, le4_3, rz0, rz1, rzt, eq_self, e, if_true]
    rfl
  | succ n ih =>
    intro hn b hb
    have e : ¬ kM1 (n + 1) < 0 := nI_pos (by omega)
    have hcl : (nI n).toNatClampNeg = n := nI_clamp (by omega)
    have hin : inB (nI n) 8 = true := inB_nI (by omega) (by decide)
    have hk : kM1 (n + 1) = nI n := rfl
    have hs : nI n + (-1) = kM1 n := kM1_s
    rw [z117_6]
    rcases hb with rfl | ⟨j, hj, rfl⟩
    · have ih1 := ih (by omega) (-6) (Or.inl rfl)
      have ih2 := ih (by omega) (nI n) (Or.inr ⟨n, by omega, rfl⟩)
      have e6 : (-6 : Int32) < 0 := by decide
      rw [hk] at e ⊢
      simp only [z117_0, z117_2, z117_3, z117_5, z117_7, z117_10, z117_11, z117_12, z117_15, z117_18, z117_19, z117_22, z117_23, z117_26, z117_27, z117_28, z117_29, z117_32, z117_33, z117_34, z117_37, z117_38, z117_41, z117_42, z117_43, z117_46, z117_49, z117_50, Option.bind_some, Option.toList_some, Option.toList_none, List.cons_append, List.nil_append, sc_i, sc_r, sc_l, sc_u, sc_s, List.length_nil, List.length_cons, Nat.reduceAdd, Nat.reduceLeDiff, Nat.zero_le, le4_0, le4_1, le4_2, le4_3, rz0, rz1, rzt, eq_self, e, if_false, x_mHasN, oc64 h, of64_0 h, og64_0 h, ok64_0 h, of64_1 h, og64_1 h, of64_2 h, og64_2 h, of64_3 h, og64_3 h, of64_4 h, og64_4 h, of64_5 h, og64_5 h, ok64_5 h, of64_6 h, og64_6 h, ok64_6 h, of64_7 h, og64_7 h, of64_8 h, og64_8 h, of64_9 h, og64_9 h, of64_10 h, og64_10 h, of64_11 h, og64_11 h, of64_12 h, og64_12 h, of64_13 h, og64_13 h, ok64_13 h, of64_14 h, og64_14 h, of64_15 h, og64_15 h, ok64_15 h, of64_16 h, og64_16 h, of64_17 h, og64_17 h, of64_18 h, og64_18 h, of64_19 h, og64_19 h, of64_20 h, og64_20 h, of64_21 h, og64_21 h, ok64_21 h, of64_22 h, og64_22 h, of64_23 h, og64_23 h, ok64_23 h, of64_24 h, og64_24 h, ok64_24 h, of64_25 h, og64_25 h, ok64_25 h, of64_26 h, og64_26 h, ok64_26 h, of64_27 h, og64_27 h, ok64_27 h, of64_28 h, og64_28 h, of64_29 h, og64_29 h, of64_30 h, og64_30 h, of64_31 h, og64_31 h, of64_32 h, og64_32 h, of64_33 h, og64_33 h, of64_34 h, og64_34 h, of64_35 h, og64_35 h, ok64_35 h, of64_36 h, og64_36 h, ok64_36 h, oa65 h, ol65 h, hs, ih1, ih2, e6, if_true, tI_0]
      rw [oldM]
      by_cases hb : bq s n = true
      · simp only [hb, not_true_eq_false, if_false, true_or, and_self, if_true, e6]
      · simp [hb]
    · have ih1 := ih (by omega) (nI j) (Or.inr ⟨j, hj, rfl⟩)
      have ih2 := ih (by omega) (nI n) (Or.inr ⟨n, by omega, rfl⟩)
      have ej : ¬ nI j < 0 := nI_pos (by omega)
      have hcj : (nI j).toNatClampNeg = j := nI_clamp (by omega)
      have hij : inB (nI j) 8 = true := inB_nI (by omega) (by decide)
      rw [hk] at e ⊢
      simp only [z117_0, z117_2, z117_3, z117_5, z117_7, z117_10, z117_11, z117_12, z117_15, z117_18, z117_19, z117_22, z117_23, z117_26, z117_27, z117_28, z117_29, z117_32, z117_33, z117_34, z117_37, z117_38, z117_41, z117_42, z117_43, z117_46, z117_49, z117_50, Option.bind_some, Option.toList_some, Option.toList_none, List.cons_append, List.nil_append, sc_i, sc_r, sc_l, sc_u, sc_s, List.length_nil, List.length_cons, Nat.reduceAdd, Nat.reduceLeDiff, Nat.zero_le, le4_0, le4_1, le4_2, le4_3, rz0, rz1, rzt, eq_self, e, if_false, x_mHasN, oc64 h, of64_0 h, og64_0 h, ok64_0 h, of64_1 h, og64_1 h, of64_2 h, og64_2 h, of64_3 h, og64_3 h, of64_4 h, og64_4 h, of64_5 h, og64_5 h, ok64_5 h, of64_6 h, og64_6 h, ok64_6 h, of64_7 h, og64_7 h, of64_8 h, og64_8 h, of64_9 h, og64_9 h, of64_10 h, og64_10 h, of64_11 h, og64_11 h, of64_12 h, og64_12 h, of64_13 h, og64_13 h, ok64_13 h, of64_14 h, og64_14 h, of64_15 h, og64_15 h, ok64_15 h, of64_16 h, og64_16 h, of64_17 h, og64_17 h, of64_18 h, og64_18 h, of64_19 h, og64_19 h, of64_20 h, og64_20 h, of64_21 h, og64_21 h, ok64_21 h, of64_22 h, og64_22 h, of64_23 h, og64_23 h, ok64_23 h, of64_24 h, og64_24 h, ok64_24 h, of64_25 h, og64_25 h, ok64_25 h, of64_26 h, og64_26 h, ok64_26 h, of64_27 h, og64_27 h, ok64_27 h, of64_28 h, og64_28 h, of64_29 h, og64_29 h, of64_30 h, og64_30 h, of64_31 h, og64_31 h, of64_32 h, og64_32 h, of64_33 h, og64_33 h, of64_34 h, og64_34 h, of64_35 h, og64_35 h, ok64_35 h, of64_36 h, og64_36 h, ok64_36 h, oa65 h, ol65 h, hs, ih1, ih2, ej, hin, hcl, hij, hcj, tI_0]
      rw [oldM]
      by_cases hb : bq s n = true
      · by_cases hg : aget w 65 n < aget w 65 j
        · have hg' : ¬ aget w 65 n ≥ aget w 65 j := i32_nle.mpr hg
          simp only [hb, hg, hg', not_true_eq_false, if_false, hcj, ej, or_self, and_false, if_true]
        · have hg' : aget w 65 n ≥ aget w 65 j := i32_nlt.mp hg
          simp only [hb, hg, hg', not_true_eq_false, if_false, hcj, ej, or_true, and_self, if_true]
      · simp [hb]
theorem x_mold {X : Scr} {w : AW} {s : Int32} (h : OK w) : Z X 117 0 [.ref 64, .int s, uns, uns] [] w = some (some (.int (oldM (aget w 65) s 8 (-6))), w) := by
  have h1 := x_moldLoop (X := X) (s := s) h 8 (Nat.le_refl 8) (-6) (Or.inl rfl)
  simp only [z117_0, z117_2, z117_3, z117_5, z117_7, z117_10, z117_11, z117_12, z117_15, z117_18, z117_19, z117_22, z117_23, z117_26, z117_27, z117_28, z117_29, z117_32, z117_33, z117_34, z117_37, z117_38, z117_41, z117_42, z117_43, z117_46, z117_49, z117_50, Option.bind_some, Option.toList_some, Option.toList_none, List.cons_append, List.nil_append, sc_i, sc_r, sc_l, sc_u, sc_s, List.length_nil, List.length_cons, Nat.reduceAdd, Nat.reduceLeDiff, Nat.zero_le, le4_0, le4_1, le4_2, le4_3, rz0, rz1, rzt, eq_self]
  exact h1
/-- r is the oldest of s among lo .. hi - 1, the least of as old -/
def isB (ag : Nat → Int32) (s : Int32) (lo hi : Nat) (r : Int32) : Prop := (r = -6 ∧ ∀ i, lo ≤ i → i < hi → bq s i = false) ∨ ∃ j, lo ≤ j ∧ j < hi ∧ r = nI j ∧ bq s j = true ∧ (∀ i, lo ≤ i → i < hi → bq s i = true → (ag i).toInt ≤ (ag j).toInt) ∧ ∀ i, lo ≤ i → i < j → bq s i = true → (ag i).toInt < (ag j).toInt
theorem isB_un {ag : Nat → Int32} {s : Int32} {r r' : Int32} (h : isB ag s 0 8 r) (h' : isB ag s 0 8 r') : r = r' := by
  rcases h with ⟨rfl, h1⟩ | ⟨j, -, h2, rfl, h3, h4, h5⟩ <;> rcases h' with ⟨rfl, g1⟩ | ⟨j', -, g2, rfl, g3, g4, g5⟩
  · rfl
  · have := h1 j' (by omega) g2; rw [g3] at this; cases this
  · have := g1 j (by omega) h2; rw [h3] at this; cases this
  · have e : j = j' := by
      rcases Nat.lt_trichotomy j j' with q | q | q
      · have a1 := g5 j (by omega) q h3
        have a2 := h4 j' (by omega) g2 g3
        omega
      · exact q
      · have a1 := h5 j' (by omega) q g3
        have a2 := g4 j (by omega) h2 h3
        omega
    rw [e]
theorem oldC_is {ag : Nat → Int32} {s : Int32} (hag : ∀ i, i < 8 → 0 ≤ (ag i).toInt) : ∀ (n : Nat), n ≤ 8 → ∀ (fd fa : Int32), isB ag s 0 (8 - n) fd → (fd = -6 → fa = -1) → (∀ j, j < 8 → fd = nI j → fa = ag j) → isB ag s 0 8 (oldC ag s n fd fa) := by
  intro n
  induction n with
  | zero => intro hn fd fa h h1 h2; exact h
  | succ n ih =>
    intro hn fd fa h h1 h2
    rw [oldC]
    have hnn : 8 - n = 8 - (n + 1) + 1 := by omega
    have hi : 8 - (n + 1) = 7 - n := by omega
    rw [hi] at h
    by_cases hc : bq s (7 - n) = true ∧ ag (7 - n) > fa
    · rw [if_pos hc]
      have hgt := Int32.lt_iff_toInt_lt.mp hc.2
      refine ih (by omega) _ _ (Or.inr ⟨7 - n, by omega, by omega, rfl, hc.1, ?_, ?_⟩) (fun q => ?_) (fun j hj q => ?_)
      · intro i _ hi2 hb
        by_cases e : i = 7 - n
        · rw [e]; exact Int.le_refl _
        · rcases h with ⟨-, g⟩ | ⟨j, -, g2, g3, g4, g5, -⟩
          · have := g i (by omega) (by omega); rw [hb] at this; cases this
          · have a1 := g5 i (by omega) (by omega) hb
            have a2 := h2 j (by omega) g3
            rw [a2] at hgt
            omega
      · intro i _ hi2 hb
        rcases h with ⟨-, g⟩ | ⟨j, -, g2, g3, g4, g5, -⟩
        · have := g i (by omega) (by omega); rw [hb] at this; cases this
        · have a1 := g5 i (by omega) (by omega) hb
          have a2 := h2 j (by omega) g3
          rw [a2] at hgt
          omega
      · exfalso
        have : (nI (7 - n)).toInt = (7 - n : Nat) := nI_toInt (by omega)
        rw [q] at this
        have h6 : (-6 : Int32).toInt = -6 := rfl
        omega
      · have e1 : (nI (7 - n)).toInt = (7 - n : Nat) := nI_toInt (by omega)
        have e2 : (nI j).toInt = (j : Nat) := nI_toInt (by omega)
        rw [q] at e1
        have : j = 7 - n := by omega
        rw [this]
    · rw [if_neg hc]
      refine ih (by omega) fd fa ?_ h1 h2
      rcases h with ⟨g0, g⟩ | ⟨j, g1, g2, g3, g4, g5, g6⟩
      · refine Or.inl ⟨g0, fun i _ hi2 => ?_⟩
        by_cases e : i = 7 - n
        · cases hb : bq s i with
          | false => rfl
          | true =>
            exfalso
            rw [e] at hb
            refine hc ⟨hb, Int32.lt_iff_toInt_lt.mpr ?_⟩
            rw [h1 g0]
            have := hag (7 - n) (by omega)
            have h6 : (-1 : Int32).toInt = -1 := rfl
            omega
        · exact g i (by omega) (by omega)
      · refine Or.inr ⟨j, g1, by omega, g3, g4, fun i _ hi2 hb => ?_, g6⟩
        by_cases e : i = 7 - n
        · have a2 := h2 j (by omega) g3
          have : ¬ fa < ag (7 - n) := fun q => hc ⟨by rw [← e]; exact hb, q⟩
          have := Int32.le_iff_toInt_le.mp (i32_nlt.mp this)
          rw [e, ← a2]
          exact this
        · exact g5 i (by omega) (by omega) hb
theorem oldM_is {ag : Nat → Int32} {s : Int32} : ∀ (n : Nat), n ≤ 8 → ∀ (b : Int32), isB ag s n 8 b → isB ag s 0 8 (oldM ag s n b) := by
  intro n
  induction n with
  | zero => intro hn b h; exact h
  | succ n ih =>
    intro hn b h
    rw [oldM]
    refine ih (by omega) _ ?_
    by_cases hc : bq s n = true ∧ (b < 0 ∨ ag n ≥ ag b.toNatClampNeg)
    · rw [if_pos hc]
      refine Or.inr ⟨n, Nat.le_refl n, by omega, rfl, hc.1, fun i h1 h2 hb => ?_, fun i h1 h2 hb => by omega⟩
      by_cases e : i = n
      · rw [e]; exact Int.le_refl _
      · rcases h with ⟨-, g⟩ | ⟨j, g1, g2, g3, g4, g5, g6⟩
        · have := g i (by omega) h2; rw [hb] at this; cases this
        · have a1 := g5 i (by omega) h2 hb
          rcases hc.2 with q | q
          · rw [g3] at q; exact absurd q (nI_pos (by omega))
          · rw [g3, nI_clamp (by omega)] at q
            have := Int32.le_iff_toInt_le.mp q
            omega
    · rw [if_neg hc]
      rcases h with ⟨g0, g⟩ | ⟨j, g1, g2, g3, g4, g5, g6⟩
      · refine Or.inl ⟨g0, fun i h1 h2 => ?_⟩
        by_cases e : i = n
        · cases hb : bq s i with
          | false => rfl
          | true =>
            exfalso
            exact hc ⟨by rw [← e]; exact hb, Or.inl (by rw [g0]; decide)⟩
        · exact g i (by omega) h2
      · have hlt : bq s n = true → (ag n).toInt < (ag j).toInt := fun hb => by
          have h1 : ¬ ag n ≥ ag j := fun q => hc ⟨hb, Or.inr (by rw [g3, nI_clamp (by omega)]; exact q)⟩
          exact Int32.lt_iff_toInt_lt.mp (i32_nle.mp h1)
        refine Or.inr ⟨j, by omega, g2, g3, g4, fun i h1 h2 hb => ?_, fun i h1 h2 hb => ?_⟩
        · by_cases e : i = n
          · have := hlt (by rw [← e]; exact hb); rw [e]; omega
          · exact g5 i (by omega) h2 hb
        · by_cases e : i = n
          · rw [e]; exact hlt (by rw [← e]; exact hb)
          · exact g6 i (by omega) h2 hb
theorem old_eq {ag ag' : Nat → Int32} {s : Int32} (hag : ∀ i, i < 8 → 0 ≤ (ag i).toInt) (he : ∀ i, i < 8 → ag' i = ag i) : oldM ag' s 8 (-6) = oldC ag s 8 (-6) (-1) := by
  have h1 := oldC_is (s := s) hag 8 (Nat.le_refl 8) (-6) (-1) (Or.inl ⟨rfl, fun i _ h => by omega⟩) (fun _ => rfl) (fun j hj q => by
    have e2 : (nI j).toInt = (j : Nat) := nI_toInt (by omega)
    rw [← q] at e2
    have h6 : (-6 : Int32).toInt = -6 := rfl
    omega)
  have h2 := oldM_is (ag := ag') (s := s) 8 (Nat.le_refl 8) (-6) (Or.inl ⟨rfl, fun i h1 h => by omega⟩)
  have h3 : isB ag s 0 8 (oldM ag' s 8 (-6)) := by
    rcases h2 with h | ⟨j, g1, g2, g3, g4, g5, g6⟩
    · exact Or.inl h
    · refine Or.inr ⟨j, g1, g2, g3, g4, fun i q1 q2 q3 => ?_, fun i q1 q2 q3 => ?_⟩
      · rw [← he i q2, ← he j g2]; exact g5 i q1 q2 q3
      · rw [← he i (by omega), ← he j g2]; exact g6 i q1 q2 q3
  exact isB_un h3 h1
/-- the oldest is none, or one of the set -/
theorem oldC_in {ag : Nat → Int32} {s : Int32} (hag : ∀ i, i < 8 → 0 ≤ (ag i).toInt) : (oldC ag s 8 (-6) (-1) = -6 ∧ ∀ i, i < 8 → bq s i = false) ∨ ∃ j, j < 8 ∧ oldC ag s 8 (-6) (-1) = nI j ∧ bq s j = true := by
  have h1 := oldC_is (s := s) hag 8 (Nat.le_refl 8) (-6) (-1) (Or.inl ⟨rfl, fun i _ h => by omega⟩) (fun _ => rfl) (fun j hj q => by
    have e2 : (nI j).toInt = (j : Nat) := nI_toInt (by omega)
    rw [← q] at e2
    have h6 : (-6 : Int32).toInt = -6 := rfl
    omega)
  rcases h1 with ⟨a, b⟩ | ⟨j, -, g2, g3, g4, -⟩
  · exact Or.inl ⟨a, fun i hi => b i (by omega) hi⟩
  · exact Or.inr ⟨j, g2, g3, g4⟩
