/-! ask -/
def tl (m k : Nat) : List Nat → Nat
  | [] => 0
  | x :: R => (if who x m = k then 1 else 0) + tl m k R
theorem tl_le {m k : Nat} : ∀ L : List Nat, tl m k L ≤ L.length := by
  intro L
  induction L with
  | nil => exact Nat.le_refl 0
  | cons x R ih =>
    rw [tl, List.length_cons]
    by_cases e : who x m = k
    · rw [if_pos e]; omega
    · rw [if_neg e]; omega
def lf (L : List Nat) (m k : Nat) : Nat := if tl m k L < L.length - tl m k L then L.length - tl m k L else tl m k L
theorem lf_le {L : List Nat} {m k : Nat} : lf L m k ≤ L.length := by
  have := tl_le (m := m) (k := k) L
  unfold lf
  by_cases e : tl m k L < L.length - tl m k L
  · rw [if_pos e]; omega
  · rw [if_neg e]; omega
def stK (L : List Nat) (m k : Nat) (s : Int32 × Nat) : Int32 × Nat := if lf L m k < s.2 then (nI (10 * m + k), lf L m k) else s
def foK (L : List Nat) (m : Nat) : Nat → Nat → Int32 × Nat → Int32 × Nat
  | 0, _, s => s
  | n + 1, k, s => foK L m n (k + 1) (stK L m k s)
def foM (L : List Nat) : Nat → Nat → Int32 × Nat → Int32 × Nat
  | 0, _, s => s
  | n + 1, m, s => foM L n (m + 1) (foK L m 8 0 s)
theorem stK_b {L : List Nat} {m k : Nat} {s : Int32 × Nat} (h : s.2 ≤ L.length + 1) : (stK L m k s).2 ≤ L.length + 1 := by
  unfold stK
  by_cases e : lf L m k < s.2
  · rw [if_pos e]; exact Nat.le_succ_of_le lf_le
  · rw [if_neg e]; exact h
theorem foK_b {L : List Nat} {m : Nat} : ∀ (n k : Nat) (s : Int32 × Nat), s.2 ≤ L.length + 1 → (foK L m n k s).2 ≤ L.length + 1 := by
  intro n
  induction n with
  | zero => intro k s h; exact h
  | succ n ih => intro k s h; exact ih (k + 1) _ (stK_b h)
def gq (q : Int32) : Prop := ∃ t, t < 1000 ∧ q = nI t
theorem stK_g {L : List Nat} {m k : Nat} {s : Int32 × Nat} (hm : m < 61) (hk : k < 8) (h : gq s.1) : gq (stK L m k s).1 := by
  unfold stK
  by_cases e : lf L m k < s.2
  · rw [if_pos e]; exact ⟨10 * m + k, by omega, rfl⟩
  · rw [if_neg e]; exact h
theorem foK_g {L : List Nat} {m : Nat} (hm : m < 61) : ∀ (n k : Nat) (s : Int32 × Nat), k + n = 8 → gq s.1 → gq (foK L m n k s).1 := by
  intro n
  induction n with
  | zero => intro k s _ h; exact h
  | succ n ih => intro k s hk h; exact ih (k + 1) _ (by omega) (stK_g hm (by omega) h)
theorem foM_g {L : List Nat} : ∀ (n m : Nat) (s : Int32 × Nat), m + n = 61 → gq s.1 → gq (foM L n m s).1 := by
  intro n
  induction n with
  | zero => intro m s _ h; exact h
  | succ n ih => intro m s hm h; exact ih (m + 1) _ (by omega) (foK_g (by omega) 8 0 s rfl h)
theorem foM_0 {L : List Nat} : gq (foM L 61 0 (-6, L.length + 1)).1 := by
  rw [foM]
  refine foM_g 60 1 _ rfl ?_
  rw [foK]
  refine foK_g (by decide) 7 1 _ rfl ?_
  unfold stK
  rw [if_pos (Nat.lt_succ_of_le lf_le)]
  exact ⟨10 * 0 + 0, by decide, rfl⟩
theorem x_fillL {X : Scr} {w : AW} {a n : Nat} {v : Int32} (ha : aok w a = true) (hl : alen w a = n) (hn : n < 1000) : ∀ (f i : Nat), i + f = n → ∀ g : Nat → Int32, (∀ j, j < i → g j = v) → ∃ g', Z X 2 5 [.ref a, .int v, .int (nI i), .int (nI n)] [] (aset w a g) = some (none, aset w a g') ∧ ∀ j, j < n → g' j = v := by
  intro f
  induction f with
  | zero =>
    intro i hi g hg
    have hi : i = n := hi
    subst hi
    refine ⟨g, ?_, hg⟩
    rw [z2_5]
    simp only [z2_0, z2_1, z2_2, z2_3, z2_4, z2_6, z2_7, z2_10, z2_11, z2_12, z2_13, z2_14, z2_17, z2_20, Option.bind_some, Option.toList_some, Option.toList_none, List.cons_append, List.nil_append, sc_i, sc_r, sc_l, sc_u, sc_s, List.length_nil, List.length_cons, Nat.reduceAdd, Nat.reduceLeDiff, Nat.zero_le, le4_0, le4_1, le4_2, le4_3, rz0, rz1, rzt, eq_self, tI_0, tI_n0, if_true, if_false, ne_eq, not_true_eq_false, not_false_eq_true, and_self, Bool.false_eq_true, geN hn hn, Nat.le_refl]
  | succ f ih =>
    intro i hi g hg
    have e : ¬ n ≤ i := by omega
    obtain ⟨g', r1, r2⟩ := ih (i + 1) (by omega) (upd g i v) (fun j hj => by
      rw [updI]
      by_cases q : j = i
      · rw [if_pos q]
      · rw [if_neg q]; exact hg j (by omega))
    refine ⟨g', ?_, r2⟩
    have hb : inB (nI i) n = true := inB_nI (by omega) (by omega)
    have hc : (nI i).toNatClampNeg = i := nI_clamp (by omega)
    rw [← r1, z2_5]
    simp only [z2_0, z2_1, z2_2, z2_3, z2_4, z2_6, z2_7, z2_10, z2_11, z2_12, z2_13, z2_14, z2_17, z2_20, Option.bind_some, Option.toList_some, Option.toList_none, List.cons_append, List.nil_append, sc_i, sc_r, sc_l, sc_u, sc_s, List.length_nil, List.length_cons, Nat.reduceAdd, Nat.reduceLeDiff, Nat.zero_le, le4_0, le4_1, le4_2, le4_3, rz0, rz1, rzt, eq_self, fo_f, fo_a, fo_j, co_f, co_a, co_j, ao_f, ao_a, ao_j, zo_f, zo_a, zo_j, jo_f, jo_a, jo_j, al_f, al_a, al_j, fg_a, fg_j, ag_f, ag_j, jg_f, jg_a, fk_f, fk_a, fk_j, fi_a, fi_j, tI_0, tI_n0, if_true, if_false, ne_eq, not_true_eq_false, not_false_eq_true, and_self, Bool.false_eq_true, geN (show i < 1000 by omega) hn, e, ha, hl, hb, hc, ag_s ha, as_s, nI_1]
theorem x_fill {X : Scr} {w : AW} {a n : Nat} {v : Int32} (ha : aok w a = true) (hr : arr w a = true) (hl : alen w a = n) (hn : n < 1000) : ∃ g', Z X 2 0 [.ref a, .int v, uns, uns] [] w = some (none, aset w a g') ∧ ∀ j, j < n → g' j = v := by
  obtain ⟨g', r1, r2⟩ := x_fillL (X := X) (v := v) ha hl hn n 0 (by omega) (aget w a) (fun j hj => absurd hj (Nat.not_lt_zero j))
  rw [aset_id rfl] at r1
  have z0 : nI 0 = 0 := rfl
  have zn : Int32.ofNat n = nI n := rfl
  rw [z0] at r1
  refine ⟨g', ?_, r2⟩
  simp only [z2_0, z2_1, z2_2, z2_3, z2_4, z2_6, z2_7, z2_10, z2_11, z2_12, z2_13, z2_14, z2_17, z2_20, Option.bind_some, Option.toList_some, Option.toList_none, List.cons_append, List.nil_append, sc_i, sc_r, sc_l, sc_u, sc_s, List.length_nil, List.length_cons, Nat.reduceAdd, Nat.reduceLeDiff, Nat.zero_le, le4_0, le4_1, le4_2, le4_3, rz0, rz1, rzt, eq_self, hr, hl, zn, r1]
/-- the codes are kept in the class's array -/
def CW (w : AW) (L : List Nat) : Prop := OK w ∧ fI w 27 2 = nI L.length ∧ ∀ i, i < L.length → aget w 28 i = nI (L[i]?.getD 0)
def LG (L : List Nat) : Prop := L.length ≤ 336 ∧ ∀ x ∈ L, x < 800 ∧ 1 ≤ x % 10
theorem x_cntL2 {X : Scr} {w : AW} {L : List Nat} {m : Nat} (cw : CW w L) (lg : LG L) (hm : m ≤ 60) : ∀ (n i : Nat), i + n = L.length → ∀ (g : Nat → Int32) (c : Nat → Nat) (v : Value), isSec v = false → (∀ k, k < 8 → g k = nI (c k)) → ∃ g', Z X 76 10 [.ref 27, .int (nI m), .int (nI i), v] [] (aset w 29 g) = some (none, aset w 29 g') ∧ ∀ k, k < 8 → g' k = nI (c k + tl m k (L.drop i)) := by
  obtain ⟨h0, k1, k2⟩ := cw
  obtain ⟨l1, l2⟩ := lg
  intro n
  induction n with
  | zero =>
    intro i hi g c v hv hg
    have hi : i = L.length := hi
    subst hi
    refine ⟨g, ?_, fun k hk => ?_⟩
    · rw [z76_10]
      simp only [z76_0, z76_1, z76_4, z76_5, z76_8, z76_9, z76_11, z76_12, z76_15, z76_18, z76_19, z76_22, z76_25, z76_26, z76_29, z76_30, z76_31, z76_32, z76_35, z76_36, z76_37, z76_40, z76_43, z76_44, z76_47, z76_48, z76_49, z76_50, z76_51, z76_52, z76_53, z76_56, z76_59, Option.bind_some, Option.toList_some, Option.toList_none, List.cons_append, List.nil_append, sc_i, sc_r, sc_l, sc_u, sc_s, List.length_nil, List.length_cons, Nat.reduceAdd, Nat.reduceLeDiff, Nat.zero_le, le4_0, le4_1, le4_2, le4_3, rz0, rz1, rzt, eq_self, fo_f, fo_a, fo_j, co_f, co_a, co_j, ao_f, ao_a, ao_j, zo_f, zo_a, zo_j, jo_f, jo_a, jo_j, al_f, al_a, al_j, fg_a, fg_j, ag_f, ag_j, jg_f, jg_a, fk_f, fk_a, fk_j, fi_a, fi_j, tI_0, tI_n0, if_true, if_false, ne_eq, not_true_eq_false, not_false_eq_true, and_self, Bool.false_eq_true, oc27 h0, of27_0 h0, og27_0 h0, of27_1 h0, og27_1 h0, of27_2 h0, og27_2 h0, ok27_2 h0, of27_3 h0, og27_3 h0, ok27_3 h0, of27_4 h0, og27_4 h0, ok27_4 h0, k1, geN (show L.length < 1000 by omega) (show L.length < 1000 by omega), Nat.le_refl]
    · rw [List.drop_length, hg k hk]; rfl
  | succ n ih =>
    intro i hi g c v hv hg
    have hil : i < L.length := by omega
    have e : ¬ L.length ≤ i := by omega
    have e2 : (nI i ≥ 336) = (336 ≤ i) := geN (b := 336) (by omega) (by decide)
    have e3 : ¬ 336 ≤ i := by omega
    have hb : inB (nI i) 336 = true := inB_nI (by omega) (by decide)
    have hc : (nI i).toNatClampNeg = i := nI_clamp (by omega)
    have hx := k2 i hil
    have hdr : L.drop i = L[i] :: L.drop (i + 1) := List.drop_eq_getElem_cons hil
    rw [List.getElem?_eq_getElem hil] at hx
    have hx : aget w 28 i = nI L[i] := hx
    obtain ⟨p1, p2⟩ := l2 L[i] (List.getElem_mem hil)
    have hw : who L[i] m < 8 := who_le
    have hh := x_hold (X := X) (w := aset w 29 g) p1 p2 hm
    have hk : (0 ≤ nI (who L[i] m) ∧ nI (who L[i] m) < 8) := ⟨nI_pos' (by omega), by rw [nI_8]; exact nI_lt hw (by decide)⟩
    obtain ⟨g', r1, r2⟩ := ih (i + 1) (by omega) (upd g (who L[i] m) (nI (c (who L[i] m)) + 1)) (fun k => c k + if who L[i] m = k then 1 else 0) (.int (nI (who L[i] m))) sc_i (fun k hk => by
      rw [updI]
      by_cases q : k = who L[i] m
      · subst q; rw [if_pos rfl, if_pos rfl, nI_1]
      · rw [if_neg q, if_neg (fun z => q z.symm), hg k hk]; rfl)
    refine ⟨g', ?_, fun k hk => ?_⟩
    · rw [← r1, z76_10]
      simp only [z76_0, z76_1, z76_4, z76_5, z76_8, z76_9, z76_11, z76_12, z76_15, z76_18, z76_19, z76_22, z76_25, z76_26, z76_29, z76_30, z76_31, z76_32, z76_35, z76_36, z76_37, z76_40, z76_43, z76_44, z76_47, z76_48, z76_49, z76_50, z76_51, z76_52, z76_53, z76_56, z76_59, Option.bind_some, Option.toList_some, Option.toList_none, List.cons_append, List.nil_append, sc_i, sc_r, sc_l, sc_u, sc_s, List.length_nil, List.length_cons, Nat.reduceAdd, Nat.reduceLeDiff, Nat.zero_le, le4_0, le4_1, le4_2, le4_3, rz0, rz1, rzt, eq_self, fo_f, fo_a, fo_j, co_f, co_a, co_j, ao_f, ao_a, ao_j, zo_f, zo_a, zo_j, jo_f, jo_a, jo_j, al_f, al_a, al_j, fg_a, fg_j, ag_f, ag_j, jg_f, jg_a, fk_f, fk_a, fk_j, fi_a, fi_j, ag_s, ag_z, ag_n, fi_s, fi_n, fg_s, fg_n, jg_s, jg_n, Nat.reduceEqDiff, not_false_eq_true, and_false, false_and, true_and, and_true, and_self, tI_0, tI_n0, if_true, if_false, ne_eq, not_true_eq_false, not_false_eq_true, and_self, Bool.false_eq_true, oc27 h0, of27_0 h0, og27_0 h0, of27_1 h0, og27_1 h0, of27_2 h0, og27_2 h0, ok27_2 h0, of27_3 h0, og27_3 h0, ok27_3 h0, of27_4 h0, og27_4 h0, ok27_4 h0, oa28 h0, ol28 h0, oa29 h0, ol29 h0, k1, geN (show i < 1000 by omega) (show L.length < 1000 by omega), e, e2, e3, hb, hc, hx, hh, hv, x_isKin, hk, z10, b8 hw, c8 hw, hg _ hw, as_s, nI_1]
    · rw [r2 k hk, hdr, tl]
      congr 1
      show c k + (if who L[i] m = k then 1 else 0) + _ = _
      omega
theorem x_cntH {X : Scr} {w : AW} {L : List Nat} {m : Nat} (cw : CW w L) (lg : LG L) (hm : m ≤ 60) : ∃ g, Z X 76 0 [.ref 27, .int (nI m), uns, uns] [] w = some (none, aset w 29 g) ∧ ∀ k, k < 8 → g k = nI (tl m k L) := by
  have h0 := cw.1
  obtain ⟨g1, q1, q2⟩ := x_fill (X := X) (w := w) (a := 29) (n := 8) (v := 0) (oa29 h0) (arr_of_aok (oa29 h0)) (ol29 h0) (by decide)
  obtain ⟨g2, r1, r2⟩ := x_cntL2 (X := X) cw lg hm L.length 0 (by omega) g1 (fun _ => 0) uns sc_u (fun k hk => q2 k hk)
  have z0 : nI 0 = 0 := rfl
  rw [z0] at r1
  refine ⟨g2, ?_, fun k hk => ?_⟩
  · simp only [z76_0, z76_1, z76_4, z76_5, z76_8, z76_9, z76_11, z76_12, z76_15, z76_18, z76_19, z76_22, z76_25, z76_26, z76_29, z76_30, z76_31, z76_32, z76_35, z76_36, z76_37, z76_40, z76_43, z76_44, z76_47, z76_48, z76_49, z76_50, z76_51, z76_52, z76_53, z76_56, z76_59, Option.bind_some, Option.toList_some, Option.toList_none, List.cons_append, List.nil_append, sc_i, sc_r, sc_l, sc_u, sc_s, List.length_nil, List.length_cons, Nat.reduceAdd, Nat.reduceLeDiff, Nat.zero_le, le4_0, le4_1, le4_2, le4_3, rz0, rz1, rzt, eq_self, oc27 h0, of27_0 h0, og27_0 h0, of27_1 h0, og27_1 h0, of27_2 h0, og27_2 h0, ok27_2 h0, of27_3 h0, og27_3 h0, ok27_3 h0, of27_4 h0, og27_4 h0, ok27_4 h0, oa29 h0, ol29 h0, q1, r1]
  · rw [r2 k hk, List.drop_zero, Nat.zero_add]
