/-! stay: the pure side, and the small loops -/
def wOf (wo : Nat → Nat) (s : Nat) : Nat → Nat → Nat → Nat
  | 0, _, a => a
  | n + 1, k, a => wOf wo s n (k + 1) (a + if Nat.testBit s k = true then wo k else 0)
theorem wOf_b {wo : Nat → Nat} {s : Nat} (h : ∀ k, k < 6 → wo k < 100) : ∀ n k a, k + n = 6 → wOf wo s n k a ≤ a + 100 * n := by
  intro n
  induction n with
  | zero => intro k a _; exact Nat.le_refl a
  | succ n ih =>
    intro k a hk
    rw [wOf]
    have h1 := ih (k + 1) (a + if Nat.testBit s k = true then wo k else 0) (by omega)
    have h2 := h k (by omega)
    by_cases e : Nat.testBit s k = true
    · rw [if_pos e] at h1 ⊢; omega
    · rw [if_neg e] at h1 ⊢; omega
def lE (mi : Nat → Nat) (s k : Nat) (f : Option Nat) : Bool := Nat.testBit s k && f.elim true (fun j => decide (mi k < mi j))
def leE (mi : Nat → Nat) (s k : Nat) (f : Option Nat) : Bool := Nat.testBit s k && f.elim true (fun j => decide (mi k ≤ mi j))
def eUp (mi : Nat → Nat) (s : Nat) : Nat → Nat → Option Nat → Option Nat
  | 0, _, f => f
  | n + 1, k, f => eUp mi s n (k + 1) (if lE mi s k f = true then some k else f)
def eDn (mi : Nat → Nat) (s : Nat) : Nat → Option Nat → Option Nat
  | 0, f => f
  | n + 1, f => eDn mi s n (if leE mi s n f = true then some n else f)
def isE (mi : Nat → Nat) (s lo hi : Nat) (r : Option Nat) : Prop := (r = none ∧ ∀ i, lo ≤ i → i < hi → Nat.testBit s i = false) ∨ ∃ j, r = some j ∧ lo ≤ j ∧ j < hi ∧ Nat.testBit s j = true ∧ ∀ i, lo ≤ i → i < hi → Nat.testBit s i = true → mi j ≤ mi i ∧ (i < j → mi j < mi i)
theorem isE_un {mi : Nat → Nat} {s : Nat} {r r' : Option Nat} (h : isE mi s 0 6 r) (h' : isE mi s 0 6 r') : r = r' := by
  rcases h with ⟨rfl, h1⟩ | ⟨j, rfl, -, h2, h3, h4⟩ <;> rcases h' with ⟨rfl, g1⟩ | ⟨j', rfl, -, g2, g3, g4⟩
  · rfl
  · have := h1 j' (Nat.zero_le _) g2; rw [g3] at this; cases this
  · have := g1 j (Nat.zero_le _) h2; rw [h3] at this; cases this
  · have a1 := h4 j' (Nat.zero_le _) g2 g3
    have a2 := g4 j (Nat.zero_le _) h2 h3
    rcases Nat.lt_trichotomy j j' with q | q | q
    · have := a2.2 q; omega
    · rw [q]
    · have := a1.2 q; omega
theorem eUp_is {mi : Nat → Nat} {s : Nat} : ∀ (n k : Nat), k + n = 6 → ∀ f, isE mi s 0 k f → isE mi s 0 6 (eUp mi s n k f) := by
  intro n
  induction n with
  | zero => intro k hk f h; have hk : k = 6 := hk; subst hk; exact h
  | succ n ih =>
    intro k hk f h
    rw [eUp]
    refine ih (k + 1) (by omega) _ ?_
    by_cases c : lE mi s k f = true
    · rw [if_pos c]
      unfold lE at c
      rw [Bool.and_eq_true] at c
      refine Or.inr ⟨k, rfl, Nat.zero_le k, by omega, c.1, fun i _ h2 h3 => ?_⟩
      by_cases e : i = k
      · subst e; exact ⟨Nat.le_refl _, fun z => by omega⟩
      · rcases h with ⟨rfl, g⟩ | ⟨j, rfl, -, g2, g3, g4⟩
        · have := g i (Nat.zero_le _) (by omega); rw [h3] at this; cases this
        · have a1 := (g4 i (Nat.zero_le _) (by omega) h3).1
          have a2 : mi k < mi j := of_decide_eq_true c.2
          exact ⟨by omega, fun _ => by omega⟩
    · rw [if_neg c]
      unfold lE at c
      rcases h with ⟨rfl, g⟩ | ⟨j, rfl, -, g2, g3, g4⟩
      · refine Or.inl ⟨rfl, fun i _ h2 => ?_⟩
        by_cases e : i = k
        · subst e
          cases hb : Nat.testBit s i with
          | false => rfl
          | true => exact absurd (by rw [hb]; rfl) c
        · exact g i (Nat.zero_le _) (by omega)
      · refine Or.inr ⟨j, rfl, Nat.zero_le j, by omega, g3, fun i _ h2 h3 => ?_⟩
        by_cases e : i = k
        · subst e
          rw [h3] at c
          have : ¬ mi i < mi j := fun z => c (by simp [z])
          exact ⟨by omega, fun z => by omega⟩
        · exact g4 i (Nat.zero_le _) (by omega) h3
theorem eDn_is {mi : Nat → Nat} {s : Nat} : ∀ (n : Nat), n ≤ 6 → ∀ f, isE mi s n 6 f → isE mi s 0 6 (eDn mi s n f) := by
  intro n
  induction n with
  | zero => intro hn f h; exact h
  | succ n ih =>
    intro hn f h
    rw [eDn]
    refine ih (by omega) _ ?_
    by_cases c : leE mi s n f = true
    · rw [if_pos c]
      unfold leE at c
      rw [Bool.and_eq_true] at c
      refine Or.inr ⟨n, rfl, Nat.le_refl n, by omega, c.1, fun i h1 h2 h3 => ?_⟩
      by_cases e : i = n
      · subst e; exact ⟨Nat.le_refl _, fun z => by omega⟩
      · rcases h with ⟨rfl, g⟩ | ⟨j, rfl, -, g2, g3, g4⟩
        · have := g i (by omega) h2; rw [h3] at this; cases this
        · have a1 := (g4 i (by omega) h2 h3).1
          have a2 : mi n ≤ mi j := of_decide_eq_true c.2
          exact ⟨by omega, fun z => by omega⟩
    · rw [if_neg c]
      unfold leE at c
      rcases h with ⟨rfl, g⟩ | ⟨j, rfl, g1, g2, g3, g4⟩
      · refine Or.inl ⟨rfl, fun i h1 h2 => ?_⟩
        by_cases e : i = n
        · subst e
          cases hb : Nat.testBit s i with
          | false => rfl
          | true => exact absurd (by rw [hb]; rfl) c
        · exact g i (by omega) h2
      · refine Or.inr ⟨j, rfl, by omega, g2, g3, fun i h1 h2 h3 => ?_⟩
        by_cases e : i = n
        · subst e
          rw [h3] at c
          have : ¬ mi i ≤ mi j := fun z => c (by simp [z])
          exact ⟨by omega, fun z => by omega⟩
        · exact g4 i (by omega) h2 h3
theorem e_eq {mi : Nat → Nat} {s : Nat} : eUp mi s 6 0 none = eDn mi s 6 none := isE_un (eUp_is 6 0 rfl none (Or.inl ⟨rfl, fun i _ h => by omega⟩)) (eDn_is 6 (Nat.le_refl 6) none (Or.inl ⟨rfl, fun i h1 h2 => by omega⟩))
theorem nz_k : ∀ s, s < 64 → s ≠ 0 → ∃ i, i < 6 ∧ Nat.testBit s i = true := by decide +kernel
theorem e_some {mi : Nat → Nat} {s : Nat} (hs : s < 64) (h0 : s ≠ 0) : ∃ t, t < 6 ∧ Nat.testBit s t = true ∧ eUp mi s 6 0 none = some t := by
  rcases eUp_is (mi := mi) (s := s) 6 0 rfl none (Or.inl ⟨rfl, fun i _ h => by omega⟩) with ⟨h1, h2⟩ | ⟨j, h1, -, h2, h3, -⟩
  · obtain ⟨i, hi, hb⟩ := nz_k s hs h0
    have := h2 i (Nat.zero_le _) hi
    rw [hb] at this
    cases this
  · exact ⟨j, h2, h3, h1⟩
theorem clr_k : ∀ s, s < 64 → ∀ t, t < 6 → Nat.testBit s t = true → nI s &&& (((1 : Int32) <<< (nI t &&& 31)) ^^^ (-1)) = nI (s - 2 ^ t) ∧ s - 2 ^ t < 64 ∧ pcN (s - 2 ^ t) + 1 = pcN s := by decide +kernel
theorem pc0_k : ∀ s, s < 64 → pcN s = 0 → s = 0 := by decide +kernel
def TK (w : AW) (a : Nat) (K mi wo : Nat → Nat) : Prop := ∀ i, i < 6 → aget w a i = nI (K i) ∧ K i < 8 ∧ aget w (a + 1) i = nI (mi i) ∧ mi i < 100 ∧ aget w (a + 2) i = nI (wo i) ∧ wo i < 100
theorem b6 {j : Nat} (hj : j < 6) : inB (nI j) 6 = true := inB_nI hj (by decide)
theorem c6 {j : Nat} (hj : j < 6) : (nI j).toNatClampNeg = j := nI_clamp (by omega)
theorem nI_nge6 {i : Nat} (h : i < 6) : ¬ (nI i ≥ 6) := i32_nle.mpr (by rw [show (6 : Int32) = nI 6 from rfl]; exact nI_lt h (by decide))
theorem x_tworL {X : Scr} {w : AW} {s : Nat} {K mi wo : Nat → Nat} (h0 : OK w) (hs : s < 64) (tk : TK w 20 K mi wo) : ∀ (n k : Nat), k + n = 6 → ∀ a : Nat, Z X 58 4 [.ref 19, .int (nI s), .int (nI a), .int (nI k)] [] w = some (some (.int (nI (wOf wo s n k a))), w) := by
  intro n
  induction n with
  | zero =>
    intro k hk a
    have hk : k = 6 := hk
    subst hk
    have e : nI 6 ≥ 6 := by decide
    rw [z58_4]
    simp only [z58_0, z58_1, z58_2, z58_3, z58_5, z58_7, z58_10, z58_11, z58_12, z58_15, z58_18, z58_19, z58_20, z58_23, z58_24, z58_25, z58_26, z58_27, z58_30, z58_33, z58_34, Option.bind_some, Option.toList_some, Option.toList_none, List.cons_append, List.nil_append, sc_i, sc_r, sc_l, sc_u, sc_s, List.length_nil, List.length_cons, Nat.reduceAdd, Nat.reduceLeDiff, Nat.zero_le, le4_0, le4_1, le4_2, le4_3, rz0, rz1, rzt, eq_self, tI_0, tI_n0, if_true, if_false, ne_eq, not_true_eq_false, not_false_eq_true, and_self, Bool.false_eq_true, e, wOf]
  | succ n ih =>
    intro k hk a
    have hk6 : k < 6 := by omega
    have tb := (tb_k s (by omega) k (by omega)).1
    obtain ⟨-, -, -, -, t5, -⟩ := tk k hk6
    have t5 : aget w 22 k = nI (wo k) := t5
    rw [z58_4, wOf]
    cases hb : Nat.testBit s k with
    | true =>
      rw [hb] at tb
      simp only [z58_0, z58_1, z58_2, z58_3, z58_5, z58_7, z58_10, z58_11, z58_12, z58_15, z58_18, z58_19, z58_20, z58_23, z58_24, z58_25, z58_26, z58_27, z58_30, z58_33, z58_34, Option.bind_some, Option.toList_some, Option.toList_none, List.cons_append, List.nil_append, sc_i, sc_r, sc_l, sc_u, sc_s, List.length_nil, List.length_cons, Nat.reduceAdd, Nat.reduceLeDiff, Nat.zero_le, le4_0, le4_1, le4_2, le4_3, rz0, rz1, rzt, eq_self, fo_f, fo_a, fo_j, co_f, co_a, co_j, ao_f, ao_a, ao_j, zo_f, zo_a, zo_j, jo_f, jo_a, jo_j, al_f, al_a, al_j, fg_a, fg_j, ag_f, ag_j, jg_f, jg_a, fk_f, fk_a, fk_j, fi_a, fi_j, tI_0, tI_n0, if_true, if_false, ne_eq, not_true_eq_false, not_false_eq_true, and_self, Bool.false_eq_true, nI_nge6 hk6, x_isOfN2 (show k < 10 by omega), tb, oc19 h0, of19_0 h0, og19_0 h0, of19_1 h0, og19_1 h0, of19_2 h0, og19_2 h0, of19_3 h0, og19_3 h0, ok19_3 h0, of19_4 h0, og19_4 h0, ok19_4 h0, oa22 h0, ol22 h0, b6 hk6, c6 hk6, t5, nI_add, nI_1, ih (k + 1) (by omega)]
    | false =>
      rw [hb] at tb
      simp only [z58_0, z58_1, z58_2, z58_3, z58_5, z58_7, z58_10, z58_11, z58_12, z58_15, z58_18, z58_19, z58_20, z58_23, z58_24, z58_25, z58_26, z58_27, z58_30, z58_33, z58_34, Option.bind_some, Option.toList_some, Option.toList_none, List.cons_append, List.nil_append, sc_i, sc_r, sc_l, sc_u, sc_s, List.length_nil, List.length_cons, Nat.reduceAdd, Nat.reduceLeDiff, Nat.zero_le, le4_0, le4_1, le4_2, le4_3, rz0, rz1, rzt, eq_self, fo_f, fo_a, fo_j, co_f, co_a, co_j, ao_f, ao_a, ao_j, zo_f, zo_a, zo_j, jo_f, jo_a, jo_j, al_f, al_a, al_j, fg_a, fg_j, ag_f, ag_j, jg_f, jg_a, fk_f, fk_a, fk_j, fi_a, fi_j, tI_0, tI_n0, if_true, if_false, ne_eq, not_true_eq_false, not_false_eq_true, and_self, Bool.false_eq_true, nI_nge6 hk6, x_isOfN2 (show k < 10 by omega), tb, Nat.add_zero, nI_1, ih (k + 1) (by omega)]
theorem x_twor {X : Scr} {w : AW} {s : Nat} {K mi wo : Nat → Nat} (h0 : OK w) (hs : s < 64) (tk : TK w 20 K mi wo) : Z X 58 0 [.ref 19, .int (nI s), uns, uns] [] w = some (some (.int (nI (wOf wo s 6 0 0))), w) := by
  have h1 := x_tworL (X := X) h0 hs tk 6 0 rfl 0
  have z0 : nI 0 = 0 := rfl
  rw [z0] at h1
  simp only [z58_0, z58_1, z58_2, z58_3, z58_5, z58_7, z58_10, z58_11, z58_12, z58_15, z58_18, z58_19, z58_20, z58_23, z58_24, z58_25, z58_26, z58_27, z58_30, z58_33, z58_34, Option.bind_some, Option.toList_some, Option.toList_none, List.cons_append, List.nil_append, sc_i, sc_r, sc_l, sc_u, sc_s, List.length_nil, List.length_cons, Nat.reduceAdd, Nat.reduceLeDiff, Nat.zero_le, le4_0, le4_1, le4_2, le4_3, rz0, rz1, rzt, eq_self, h1]
theorem x_mworL {X : Scr} {w : AW} {s : Nat} {K mi wo : Nat → Nat} (h0 : OK w) (hs : s < 64) (tk : TK w 69 K mi wo) : ∀ (n k : Nat), k + n = 6 → ∀ a : Nat, Z X 139 4 [.ref 64, .int (nI s), .int (nI a), .int (nI k)] [] w = some (some (.int (nI (wOf wo s n k a))), w) := by
  intro n
  induction n with
  | zero =>
    intro k hk a
    have hk : k = 6 := hk
    subst hk
    have e : nI 6 ≥ 6 := by decide
    rw [z139_4]
    simp only [z139_0, z139_1, z139_2, z139_3, z139_5, z139_7, z139_10, z139_11, z139_12, z139_13, z139_16, z139_19, z139_20, z139_23, z139_24, z139_25, z139_28, z139_29, z139_30, z139_31, z139_34, z139_37, z139_38, Option.bind_some, Option.toList_some, Option.toList_none, List.cons_append, List.nil_append, sc_i, sc_r, sc_l, sc_u, sc_s, List.length_nil, List.length_cons, Nat.reduceAdd, Nat.reduceLeDiff, Nat.zero_le, le4_0, le4_1, le4_2, le4_3, rz0, rz1, rzt, eq_self, tI_0, tI_n0, if_true, if_false, ne_eq, not_true_eq_false, not_false_eq_true, and_self, Bool.false_eq_true, e, wOf]
  | succ n ih =>
    intro k hk a
    have hk6 : k < 6 := by omega
    have tb := (tb_k s (by omega) k (by omega)).1
    obtain ⟨-, -, -, -, t5, -⟩ := tk k hk6
    have t5 : aget w 71 k = nI (wo k) := t5
    have z0 : nI a + 0 = nI a := Int32.add_zero _
    rw [z139_4, wOf]
    cases hb : Nat.testBit s k with
    | true =>
      rw [hb] at tb
      simp only [z139_0, z139_1, z139_2, z139_3, z139_5, z139_7, z139_10, z139_11, z139_12, z139_13, z139_16, z139_19, z139_20, z139_23, z139_24, z139_25, z139_28, z139_29, z139_30, z139_31, z139_34, z139_37, z139_38, Option.bind_some, Option.toList_some, Option.toList_none, List.cons_append, List.nil_append, sc_i, sc_r, sc_l, sc_u, sc_s, List.length_nil, List.length_cons, Nat.reduceAdd, Nat.reduceLeDiff, Nat.zero_le, le4_0, le4_1, le4_2, le4_3, rz0, rz1, rzt, eq_self, fo_f, fo_a, fo_j, co_f, co_a, co_j, ao_f, ao_a, ao_j, zo_f, zo_a, zo_j, jo_f, jo_a, jo_j, al_f, al_a, al_j, fg_a, fg_j, ag_f, ag_j, jg_f, jg_a, fk_f, fk_a, fk_j, fi_a, fi_j, tI_0, tI_n0, if_true, if_false, ne_eq, not_true_eq_false, not_false_eq_true, and_self, Bool.false_eq_true, nI_nge6 hk6, x_mHasN, tb, oc64 h0, of64_0 h0, og64_0 h0, ok64_0 h0, of64_1 h0, og64_1 h0, of64_2 h0, og64_2 h0, of64_3 h0, og64_3 h0, of64_4 h0, og64_4 h0, of64_5 h0, og64_5 h0, ok64_5 h0, of64_6 h0, og64_6 h0, ok64_6 h0, of64_7 h0, og64_7 h0, of64_8 h0, og64_8 h0, of64_9 h0, og64_9 h0, of64_10 h0, og64_10 h0, of64_11 h0, og64_11 h0, of64_12 h0, og64_12 h0, of64_13 h0, og64_13 h0, ok64_13 h0, of64_14 h0, og64_14 h0, of64_15 h0, og64_15 h0, ok64_15 h0, of64_16 h0, og64_16 h0, of64_17 h0, og64_17 h0, of64_18 h0, og64_18 h0, of64_19 h0, og64_19 h0, of64_20 h0, og64_20 h0, of64_21 h0, og64_21 h0, ok64_21 h0, of64_22 h0, og64_22 h0, of64_23 h0, og64_23 h0, ok64_23 h0, of64_24 h0, og64_24 h0, ok64_24 h0, of64_25 h0, og64_25 h0, ok64_25 h0, of64_26 h0, og64_26 h0, ok64_26 h0, of64_27 h0, og64_27 h0, ok64_27 h0, of64_28 h0, og64_28 h0, of64_29 h0, og64_29 h0, of64_30 h0, og64_30 h0, of64_31 h0, og64_31 h0, of64_32 h0, og64_32 h0, of64_33 h0, og64_33 h0, of64_34 h0, og64_34 h0, of64_35 h0, og64_35 h0, ok64_35 h0, of64_36 h0, og64_36 h0, ok64_36 h0, oa71 h0, ol71 h0, b6 hk6, c6 hk6, t5, nI_add, nI_1, ih (k + 1) (by omega)]
    | false =>
      rw [hb] at tb
      simp only [z139_0, z139_1, z139_2, z139_3, z139_5, z139_7, z139_10, z139_11, z139_12, z139_13, z139_16, z139_19, z139_20, z139_23, z139_24, z139_25, z139_28, z139_29, z139_30, z139_31, z139_34, z139_37, z139_38, Option.bind_some, Option.toList_some, Option.toList_none, List.cons_append, List.nil_append, sc_i, sc_r, sc_l, sc_u, sc_s, List.length_nil, List.length_cons, Nat.reduceAdd, Nat.reduceLeDiff, Nat.zero_le, le4_0, le4_1, le4_2, le4_3, rz0, rz1, rzt, eq_self, fo_f, fo_a, fo_j, co_f, co_a, co_j, ao_f, ao_a, ao_j, zo_f, zo_a, zo_j, jo_f, jo_a, jo_j, al_f, al_a, al_j, fg_a, fg_j, ag_f, ag_j, jg_f, jg_a, fk_f, fk_a, fk_j, fi_a, fi_j, tI_0, tI_n0, if_true, if_false, ne_eq, not_true_eq_false, not_false_eq_true, and_self, Bool.false_eq_true, nI_nge6 hk6, x_mHasN, tb, z0, Nat.add_zero, nI_1, ih (k + 1) (by omega)]
theorem x_mwor {X : Scr} {w : AW} {s : Nat} {K mi wo : Nat → Nat} (h0 : OK w) (hs : s < 64) (tk : TK w 69 K mi wo) : Z X 139 0 [.ref 64, .int (nI s), uns, uns] [] w = some (some (.int (nI (wOf wo s 6 0 0))), w) := by
  have h1 := x_mworL (X := X) h0 hs tk 6 0 rfl 0
  have z0 : nI 0 = 0 := rfl
  rw [z0] at h1
  simp only [z139_0, z139_1, z139_2, z139_3, z139_5, z139_7, z139_10, z139_11, z139_12, z139_13, z139_16, z139_19, z139_20, z139_23, z139_24, z139_25, z139_28, z139_29, z139_30, z139_31, z139_34, z139_37, z139_38, Option.bind_some, Option.toList_some, Option.toList_none, List.cons_append, List.nil_append, sc_i, sc_r, sc_l, sc_u, sc_s, List.length_nil, List.length_cons, Nat.reduceAdd, Nat.reduceLeDiff, Nat.zero_le, le4_0, le4_1, le4_2, le4_3, rz0, rz1, rzt, eq_self, h1]
theorem x_tearL {X : Scr} {w : AW} {s : Nat} {K mi wo : Nat → Nat} (h0 : OK w) (hs : s < 64) (tk : TK w 20 K mi wo) : ∀ (n k : Nat), k + n = 6 → ∀ f : Option Nat, (∀ j, f = some j → j < 6) → Z X 60 8 [.ref 19, .int (nI s), .int (nI (f.getD 0)), .int (nI (f.elim 100 mi)), .int (nI k)] [] w = some (some (.int (nI ((eUp mi s n k f).getD 0))), w) := by
  intro n
  induction n with
  | zero =>
    intro k hk f hf
    have hk : k = 6 := hk
    subst hk
    have e : nI 6 ≥ 6 := by decide
    rw [z60_8]
    simp only [z60_0, z60_1, z60_2, z60_4, z60_5, z60_6, z60_10, z60_12, z60_15, z60_16, z60_18, z60_21, z60_24, z60_25, z60_28, z60_30, z60_31, z60_32, z60_35, z60_37, z60_38, z60_39, z60_42, z60_44, z60_45, z60_46, z60_49, z60_52, z60_53, Option.bind_some, Option.toList_some, Option.toList_none, List.cons_append, List.nil_append, sc_i, sc_r, sc_l, sc_u, sc_s, List.length_nil, List.length_cons, Nat.reduceAdd, Nat.reduceLeDiff, Nat.zero_le, le4_0, le4_1, le4_2, le4_3, rz0, rz1, rzt, eq_self, tI_0, tI_n0, if_true, if_false, ne_eq, not_true_eq_false, not_false_eq_true, and_self, Bool.false_eq_true, e, eUp]
  | succ n ih =>
    intro k hk f hf
    have hk6 : k < 6 := by omega
    have tb := (tb_k s (by omega) k (by omega)).1
    obtain ⟨-, -, t3, t4, -, -⟩ := tk k hk6
    have t3 : aget w 21 k = nI (mi k) := t3
    have i1 := ih (k + 1) (by omega) (some k) (fun j hj => by cases hj; exact hk6)
    have i2 := ih (k + 1) (by omega) f hf
    have hfm : f.elim 100 mi ≤ 100 := by
      cases f with
      | none => exact Nat.le_refl 100
      | some j =>
        obtain ⟨-, -, -, t4, -, -⟩ := tk j (hf j rfl)
        show mi j ≤ 100
        omega
    have hc : lE mi s k f = (Nat.testBit s k && decide (mi k < f.elim 100 mi)) := by
      unfold lE
      cases f with
      | none =>
        have : decide (mi k < (none : Option Nat).elim 100 mi) = true := decide_eq_true (show mi k < 100 from t4)
        rw [this]; rfl
      | some j => rfl
    rw [z60_8, eUp, hc]
    have i1' : Z X 60 8 [.ref 19, .int (nI s), .int (nI k), .int (nI (mi k)), .int (nI (k + 1))] [] w = some (some (.int (nI ((eUp mi s n (k + 1) (some k)).getD 0))), w) := i1
    cases hb : Nat.testBit s k with
    | true =>
      rw [hb] at tb
      by_cases c : mi k < f.elim 100 mi
      · have c' : ¬ f.elim 100 mi ≤ mi k := by omega
        simp only [z60_0, z60_1, z60_2, z60_4, z60_5, z60_6, z60_10, z60_12, z60_15, z60_16, z60_18, z60_21, z60_24, z60_25, z60_28, z60_30, z60_31, z60_32, z60_35, z60_37, z60_38, z60_39, z60_42, z60_44, z60_45, z60_46, z60_49, z60_52, z60_53, Option.bind_some, Option.toList_some, Option.toList_none, List.cons_append, List.nil_append, sc_i, sc_r, sc_l, sc_u, sc_s, List.length_nil, List.length_cons, Nat.reduceAdd, Nat.reduceLeDiff, Nat.zero_le, le4_0, le4_1, le4_2, le4_3, rz0, rz1, rzt, eq_self, fo_f, fo_a, fo_j, co_f, co_a, co_j, ao_f, ao_a, ao_j, zo_f, zo_a, zo_j, jo_f, jo_a, jo_j, al_f, al_a, al_j, fg_a, fg_j, ag_f, ag_j, jg_f, jg_a, fk_f, fk_a, fk_j, fi_a, fi_j, tI_0, tI_n0, if_true, if_false, ne_eq, not_true_eq_false, not_false_eq_true, and_self, Bool.false_eq_true, nI_nge6 hk6, x_isOfN2 (show k < 10 by omega), tb, oc19 h0, of19_0 h0, og19_0 h0, of19_1 h0, og19_1 h0, of19_2 h0, og19_2 h0, of19_3 h0, og19_3 h0, ok19_3 h0, of19_4 h0, og19_4 h0, ok19_4 h0, oa21 h0, ol21 h0, b6 hk6, c6 hk6, t3, geN (show mi k < 1000 by omega) (show f.elim 100 mi < 1000 by omega), c, c', decide_true, Bool.and_self, nI_1, i1']
      · have c' : f.elim 100 mi ≤ mi k := by omega
        simp only [z60_0, z60_1, z60_2, z60_4, z60_5, z60_6, z60_10, z60_12, z60_15, z60_16, z60_18, z60_21, z60_24, z60_25, z60_28, z60_30, z60_31, z60_32, z60_35, z60_37, z60_38, z60_39, z60_42, z60_44, z60_45, z60_46, z60_49, z60_52, z60_53, Option.bind_some, Option.toList_some, Option.toList_none, List.cons_append, List.nil_append, sc_i, sc_r, sc_l, sc_u, sc_s, List.length_nil, List.length_cons, Nat.reduceAdd, Nat.reduceLeDiff, Nat.zero_le, le4_0, le4_1, le4_2, le4_3, rz0, rz1, rzt, eq_self, fo_f, fo_a, fo_j, co_f, co_a, co_j, ao_f, ao_a, ao_j, zo_f, zo_a, zo_j, jo_f, jo_a, jo_j, al_f, al_a, al_j, fg_a, fg_j, ag_f, ag_j, jg_f, jg_a, fk_f, fk_a, fk_j, fi_a, fi_j, tI_0, tI_n0, if_true, if_false, ne_eq, not_true_eq_false, not_false_eq_true, and_self, Bool.false_eq_true, nI_nge6 hk6, x_isOfN2 (show k < 10 by omega), tb, oc19 h0, of19_0 h0, og19_0 h0, of19_1 h0, og19_1 h0, of19_2 h0, og19_2 h0, of19_3 h0, og19_3 h0, ok19_3 h0, of19_4 h0, og19_4 h0, ok19_4 h0, oa21 h0, ol21 h0, b6 hk6, c6 hk6, t3, geN (show mi k < 1000 by omega) (show f.elim 100 mi < 1000 by omega), c, c', decide_false, Bool.and_false, nI_1, i2]
    | false =>
      rw [hb] at tb
      simp only [z60_0, z60_1, z60_2, z60_4, z60_5, z60_6, z60_10, z60_12, z60_15, z60_16, z60_18, z60_21, z60_24, z60_25, z60_28, z60_30, z60_31, z60_32, z60_35, z60_37, z60_38, z60_39, z60_42, z60_44, z60_45, z60_46, z60_49, z60_52, z60_53, Option.bind_some, Option.toList_some, Option.toList_none, List.cons_append, List.nil_append, sc_i, sc_r, sc_l, sc_u, sc_s, List.length_nil, List.length_cons, Nat.reduceAdd, Nat.reduceLeDiff, Nat.zero_le, le4_0, le4_1, le4_2, le4_3, rz0, rz1, rzt, eq_self, fo_f, fo_a, fo_j, co_f, co_a, co_j, ao_f, ao_a, ao_j, zo_f, zo_a, zo_j, jo_f, jo_a, jo_j, al_f, al_a, al_j, fg_a, fg_j, ag_f, ag_j, jg_f, jg_a, fk_f, fk_a, fk_j, fi_a, fi_j, tI_0, tI_n0, if_true, if_false, ne_eq, not_true_eq_false, not_false_eq_true, and_self, Bool.false_eq_true, nI_nge6 hk6, x_isOfN2 (show k < 10 by omega), tb, Bool.false_and, nI_1, i2]
theorem x_tear {X : Scr} {w : AW} {s t : Nat} {K mi wo : Nat → Nat} (h0 : OK w) (hs : s < 64) (tk : TK w 20 K mi wo) (ht : eUp mi s 6 0 none = some t) : Z X 60 0 [.ref 19, .int (nI s), uns, uns, uns] [] w = some (some (.int (nI t)), w) := by
  have h1 := x_tearL (X := X) h0 hs tk 6 0 rfl none (fun j hj => by cases hj)
  have z0 : nI 0 = 0 := rfl
  have z1 : nI 100 = 100 := rfl
  rw [ht] at h1
  have h1' : Z X 60 8 [.ref 19, .int (nI s), .int 0, .int 100, .int 0] [] w = some (some (.int (nI t)), w) := h1
  simp only [z60_0, z60_1, z60_2, z60_4, z60_5, z60_6, z60_10, z60_12, z60_15, z60_16, z60_18, z60_21, z60_24, z60_25, z60_28, z60_30, z60_31, z60_32, z60_35, z60_37, z60_38, z60_39, z60_42, z60_44, z60_45, z60_46, z60_49, z60_52, z60_53, Option.bind_some, Option.toList_some, Option.toList_none, List.cons_append, List.nil_append, sc_i, sc_r, sc_l, sc_u, sc_s, List.length_nil, List.length_cons, Nat.reduceAdd, Nat.reduceLeDiff, Nat.zero_le, le4_0, le4_1, le4_2, le4_3, rz0, rz1, rzt, eq_self, h1']
def bI6 (b : Option Nat) : Int32 := b.elim (-6) nI
theorem x_mearL {X : Scr} {w : AW} {s : Nat} {K mi wo : Nat → Nat} (h0 : OK w) (hs : s < 64) (tk : TK w 69 K mi wo) : ∀ (n : Nat), n ≤ 6 → ∀ f : Option Nat, (∀ j, f = some j → j < 6) → Z X 141 5 [.ref 64, .int (nI s), .int (bI6 f), .int (nI n + -1)] [] w = some (some (.int (bI6 (eDn mi s n f))), w) := by
  intro n
  induction n with
  | zero =>
    intro hn f hf
    have e : nI 0 + -1 < 0 := by decide
    rw [z141_5]
    simp only [z141_0, z141_2, z141_3, z141_4, z141_6, z141_9, z141_10, z141_11, z141_14, z141_17, z141_18, z141_21, z141_22, z141_25, z141_26, z141_27, z141_28, z141_31, z141_32, z141_33, z141_36, z141_37, z141_40, z141_41, z141_42, z141_45, z141_48, z141_49, Option.bind_some, Option.toList_some, Option.toList_none, List.cons_append, List.nil_append, sc_i, sc_r, sc_l, sc_u, sc_s, List.length_nil, List.length_cons, Nat.reduceAdd, Nat.reduceLeDiff, Nat.zero_le, le4_0, le4_1, le4_2, le4_3, rz0, rz1, rzt, eq_self, tI_0, tI_n0, if_true, if_false, ne_eq, not_true_eq_false, not_false_eq_true, and_self, Bool.false_eq_true, e, eDn]
  | succ n ih =>
    intro hn f hf
    have hk6 : n < 6 := by omega
    have e : ¬ nI n < 0 := nI_pos (by omega)
    have tb := (tb_k s (by omega) n (by omega)).1
    obtain ⟨-, -, t3, t4, -, -⟩ := tk n hk6
    have t3 : aget w 70 n = nI (mi n) := t3
    have i1 : Z X 141 5 [.ref 64, .int (nI s), .int (nI n), .int (nI n + -1)] [] w = some (some (.int (bI6 (eDn mi s n (some n)))), w) := ih (by omega) (some n) (fun j hj => by cases hj; exact hk6)
    have i2 := ih (by omega) f hf
    rw [nI_m1, z141_5, eDn, leE]
    cases hb : Nat.testBit s n with
    | true =>
      rw [hb] at tb
      cases f with
      | none =>
        have e6 : (-6 : Int32) < 0 := by decide
        have i2' : Z X 141 5 [.ref 64, .int (nI s), .int (-6), .int (nI n + -1)] [] w = some (some (.int (bI6 (eDn mi s n none))), w) := i2
        simp only [bI6, Option.elim_none, z141_0, z141_2, z141_3, z141_4, z141_6, z141_9, z141_10, z141_11, z141_14, z141_17, z141_18, z141_21, z141_22, z141_25, z141_26, z141_27, z141_28, z141_31, z141_32, z141_33, z141_36, z141_37, z141_40, z141_41, z141_42, z141_45, z141_48, z141_49, Option.bind_some, Option.toList_some, Option.toList_none, List.cons_append, List.nil_append, sc_i, sc_r, sc_l, sc_u, sc_s, List.length_nil, List.length_cons, Nat.reduceAdd, Nat.reduceLeDiff, Nat.zero_le, le4_0, le4_1, le4_2, le4_3, rz0, rz1, rzt, eq_self, fo_f, fo_a, fo_j, co_f, co_a, co_j, ao_f, ao_a, ao_j, zo_f, zo_a, zo_j, jo_f, jo_a, jo_j, al_f, al_a, al_j, fg_a, fg_j, ag_f, ag_j, jg_f, jg_a, fk_f, fk_a, fk_j, fi_a, fi_j, tI_0, tI_n0, if_true, if_false, ne_eq, not_true_eq_false, not_false_eq_true, and_self, Bool.false_eq_true, e, x_mHasN, tb, e6, Bool.and_self]
        exact i1
      | some j =>
        have hj : j < 6 := hf j rfl
        obtain ⟨-, -, u3, u4, -, -⟩ := tk j hj
        have u3 : aget w 70 j = nI (mi j) := u3
        have ej : ¬ nI j < 0 := nI_pos (by omega)
        have i2' : Z X 141 5 [.ref 64, .int (nI s), .int (nI j), .int (nI n + -1)] [] w = some (some (.int (bI6 (eDn mi s n (some j)))), w) := i2
        by_cases c : mi n ≤ mi j
        · have c' : ¬ mi j < mi n := by omega
          simp only [bI6, Option.elim_some, z141_0, z141_2, z141_3, z141_4, z141_6, z141_9, z141_10, z141_11, z141_14, z141_17, z141_18, z141_21, z141_22, z141_25, z141_26, z141_27, z141_28, z141_31, z141_32, z141_33, z141_36, z141_37, z141_40, z141_41, z141_42, z141_45, z141_48, z141_49, Option.bind_some, Option.toList_some, Option.toList_none, List.cons_append, List.nil_append, sc_i, sc_r, sc_l, sc_u, sc_s, List.length_nil, List.length_cons, Nat.reduceAdd, Nat.reduceLeDiff, Nat.zero_le, le4_0, le4_1, le4_2, le4_3, rz0, rz1, rzt, eq_self, fo_f, fo_a, fo_j, co_f, co_a, co_j, ao_f, ao_a, ao_j, zo_f, zo_a, zo_j, jo_f, jo_a, jo_j, al_f, al_a, al_j, fg_a, fg_j, ag_f, ag_j, jg_f, jg_a, fk_f, fk_a, fk_j, fi_a, fi_j, tI_0, tI_n0, if_true, if_false, ne_eq, not_true_eq_false, not_false_eq_true, and_self, Bool.false_eq_true, e, x_mHasN, tb, ej, oc64 h0, of64_0 h0, og64_0 h0, ok64_0 h0, of64_1 h0, og64_1 h0, of64_2 h0, og64_2 h0, of64_3 h0, og64_3 h0, of64_4 h0, og64_4 h0, of64_5 h0, og64_5 h0, ok64_5 h0, of64_6 h0, og64_6 h0, ok64_6 h0, of64_7 h0, og64_7 h0, of64_8 h0, og64_8 h0, of64_9 h0, og64_9 h0, of64_10 h0, og64_10 h0, of64_11 h0, og64_11 h0, of64_12 h0, og64_12 h0, of64_13 h0, og64_13 h0, ok64_13 h0, of64_14 h0, og64_14 h0, of64_15 h0, og64_15 h0, ok64_15 h0, of64_16 h0, og64_16 h0, of64_17 h0, og64_17 h0, of64_18 h0, og64_18 h0, of64_19 h0, og64_19 h0, of64_20 h0, og64_20 h0, of64_21 h0, og64_21 h0, ok64_21 h0, of64_22 h0, og64_22 h0, of64_23 h0, og64_23 h0, ok64_23 h0, of64_24 h0, og64_24 h0, ok64_24 h0, of64_25 h0, og64_25 h0, ok64_25 h0, of64_26 h0, og64_26 h0, ok64_26 h0, of64_27 h0, og64_27 h0, ok64_27 h0, of64_28 h0, og64_28 h0, of64_29 h0, og64_29 h0, of64_30 h0, og64_30 h0, of64_31 h0, og64_31 h0, of64_32 h0, og64_32 h0, of64_33 h0, og64_33 h0, of64_34 h0, og64_34 h0, of64_35 h0, og64_35 h0, ok64_35 h0, of64_36 h0, og64_36 h0, ok64_36 h0, oa70 h0, ol70 h0, b6 hk6, c6 hk6, b6 hj, c6 hj, t3, u3, gtN (show mi n < 1000 by omega) (show mi j < 1000 by omega), c, c', decide_true, Bool.and_self]
          exact i1
        · have c' : mi j < mi n := by omega
          simp only [bI6, Option.elim_some, z141_0, z141_2, z141_3, z141_4, z141_6, z141_9, z141_10, z141_11, z141_14, z141_17, z141_18, z141_21, z141_22, z141_25, z141_26, z141_27, z141_28, z141_31, z141_32, z141_33, z141_36, z141_37, z141_40, z141_41, z141_42, z141_45, z141_48, z141_49, Option.bind_some, Option.toList_some, Option.toList_none, List.cons_append, List.nil_append, sc_i, sc_r, sc_l, sc_u, sc_s, List.length_nil, List.length_cons, Nat.reduceAdd, Nat.reduceLeDiff, Nat.zero_le, le4_0, le4_1, le4_2, le4_3, rz0, rz1, rzt, eq_self, fo_f, fo_a, fo_j, co_f, co_a, co_j, ao_f, ao_a, ao_j, zo_f, zo_a, zo_j, jo_f, jo_a, jo_j, al_f, al_a, al_j, fg_a, fg_j, ag_f, ag_j, jg_f, jg_a, fk_f, fk_a, fk_j, fi_a, fi_j, tI_0, tI_n0, if_true, if_false, ne_eq, not_true_eq_false, not_false_eq_true, and_self, Bool.false_eq_true, e, x_mHasN, tb, ej, oc64 h0, of64_0 h0, og64_0 h0, ok64_0 h0, of64_1 h0, og64_1 h0, of64_2 h0, og64_2 h0, of64_3 h0, og64_3 h0, of64_4 h0, og64_4 h0, of64_5 h0, og64_5 h0, ok64_5 h0, of64_6 h0, og64_6 h0, ok64_6 h0, of64_7 h0, og64_7 h0, of64_8 h0, og64_8 h0, of64_9 h0, og64_9 h0, of64_10 h0, og64_10 h0, of64_11 h0, og64_11 h0, of64_12 h0, og64_12 h0, of64_13 h0, og64_13 h0, ok64_13 h0, of64_14 h0, og64_14 h0, of64_15 h0, og64_15 h0, ok64_15 h0, of64_16 h0, og64_16 h0, of64_17 h0, og64_17 h0, of64_18 h0, og64_18 h0, of64_19 h0, og64_19 h0, of64_20 h0, og64_20 h0, of64_21 h0, og64_21 h0, ok64_21 h0, of64_22 h0, og64_22 h0, of64_23 h0, og64_23 h0, ok64_23 h0, of64_24 h0, og64_24 h0, ok64_24 h0, of64_25 h0, og64_25 h0, ok64_25 h0, of64_26 h0, og64_26 h0, ok64_26 h0, of64_27 h0, og64_27 h0, ok64_27 h0, of64_28 h0, og64_28 h0, of64_29 h0, og64_29 h0, of64_30 h0, og64_30 h0, of64_31 h0, og64_31 h0, of64_32 h0, og64_32 h0, of64_33 h0, og64_33 h0, of64_34 h0, og64_34 h0, of64_35 h0, og64_35 h0, ok64_35 h0, of64_36 h0, og64_36 h0, ok64_36 h0, oa70 h0, ol70 h0, b6 hk6, c6 hk6, b6 hj, c6 hj, t3, u3, gtN (show mi n < 1000 by omega) (show mi j < 1000 by omega), c, c', decide_false, Bool.and_false]
          exact i2'
    | false =>
      rw [hb] at tb
      simp only [z141_0, z141_2, z141_3, z141_4, z141_6, z141_9, z141_10, z141_11, z141_14, z141_17, z141_18, z141_21, z141_22, z141_25, z141_26, z141_27, z141_28, z141_31, z141_32, z141_33, z141_36, z141_37, z141_40, z141_41, z141_42, z141_45, z141_48, z141_49, Option.bind_some, Option.toList_some, Option.toList_none, List.cons_append, List.nil_append, sc_i, sc_r, sc_l, sc_u, sc_s, List.length_nil, List.length_cons, Nat.reduceAdd, Nat.reduceLeDiff, Nat.zero_le, le4_0, le4_1, le4_2, le4_3, rz0, rz1, rzt, eq_self, fo_f, fo_a, fo_j, co_f, co_a, co_j, ao_f, ao_a, ao_j, zo_f, zo_a, zo_j, jo_f, jo_a, jo_j, al_f, al_a, al_j, fg_a, fg_j, ag_f, ag_j, jg_f, jg_a, fk_f, fk_a, fk_j, fi_a, fi_j, tI_0, tI_n0, if_true, if_false, ne_eq, not_true_eq_false, not_false_eq_true, and_self, Bool.false_eq_true, e, x_mHasN, tb, Bool.false_and, i2]
theorem x_mear {X : Scr} {w : AW} {s t : Nat} {K mi wo : Nat → Nat} (h0 : OK w) (hs : s < 64) (tk : TK w 69 K mi wo) (ht : eUp mi s 6 0 none = some t) : Z X 141 0 [.ref 64, .int (nI s), uns, uns] [] w = some (some (.int (nI t)), w) := by
  have h1 := x_mearL (X := X) h0 hs tk 6 (Nat.le_refl 6) none (fun j hj => by cases hj)
  have z9 : nI 6 + -1 = 5 := rfl
  rw [← e_eq, ht, z9] at h1
  have h1' : Z X 141 5 [.ref 64, .int (nI s), .int (-6), .int 5] [] w = some (some (.int (nI t)), w) := h1
  simp only [z141_0, z141_2, z141_3, z141_4, z141_6, z141_9, z141_10, z141_11, z141_14, z141_17, z141_18, z141_21, z141_22, z141_25, z141_26, z141_27, z141_28, z141_31, z141_32, z141_33, z141_36, z141_37, z141_40, z141_41, z141_42, z141_45, z141_48, z141_49, Option.bind_some, Option.toList_some, Option.toList_none, List.cons_append, List.nil_append, sc_i, sc_r, sc_l, sc_u, sc_s, List.length_nil, List.length_cons, Nat.reduceAdd, Nat.reduceLeDiff, Nat.zero_le, le4_0, le4_1, le4_2, le4_3, rz0, rz1, rzt, eq_self, h1']
