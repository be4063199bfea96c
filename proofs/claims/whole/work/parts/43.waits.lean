/-! waits -/
/-- t may be waited for, and wins -/
def wQ (W : Nat → Nat) (d l t : Nat) : Bool := decide (t ≤ l) && (decide ((l - t) % 10 ≠ d) && decide (W (l - t) = 0))
def upW (W : Nat → Nat) (k d l : Nat) : Nat → Nat → Nat
  | 0, _ => 0
  | f + 1, t => if t ≤ k ∧ t ≤ l then (if wQ W d l t = true then t else upW W k d l f (t + 1)) else 0
def dnW (W : Nat → Nat) (d l : Nat) : Nat → Nat → Nat
  | 0, b => b
  | n + 1, b => dnW W d l n (if wQ W d l (n + 1) = true then n + 1 else b)
def isW (W : Nat → Nat) (d l lo k r : Nat) : Prop := (r = 0 ∧ ∀ s, lo ≤ s → s ≤ k → wQ W d l s = false) ∨ (lo ≤ r ∧ r ≤ k ∧ wQ W d l r = true ∧ ∀ s, lo ≤ s → s < r → wQ W d l s = false)
theorem upW_is {W : Nat → Nat} {k d l : Nat} : ∀ (f t : Nat), t + f = k + 1 → isW W d l t k (upW W k d l f t) := by
  intro f
  induction f with
  | zero => intro t h; exact Or.inl ⟨rfl, fun s h1 h2 => by omega⟩
  | succ f ih =>
    intro t h
    rw [upW]
    by_cases hc : t ≤ k ∧ t ≤ l
    · rw [if_pos hc]
      by_cases hq : wQ W d l t = true
      · rw [if_pos hq]
        exact Or.inr ⟨Nat.le_refl t, hc.1, hq, fun s h1 h2 => by omega⟩
      · rw [if_neg hq]
        have hq' : wQ W d l t = false := by simpa using hq
        rcases ih (t + 1) (by omega) with ⟨g1, g2⟩ | ⟨g1, g2, g3, g4⟩
        · refine Or.inl ⟨g1, fun s h1 h2 => ?_⟩
          by_cases e : s = t
          · rw [e]; exact hq'
          · exact g2 s (by omega) h2
        · refine Or.inr ⟨by omega, g2, g3, fun s h1 h2 => ?_⟩
          by_cases e : s = t
          · rw [e]; exact hq'
          · exact g4 s (by omega) h2
    · rw [if_neg hc]
      refine Or.inl ⟨rfl, fun s h1 h2 => ?_⟩
      have : ¬ s ≤ l := by omega
      simp [wQ, this]
theorem dnW_is {W : Nat → Nat} {k d l : Nat} : ∀ (n b : Nat), n ≤ k → isW W d l (n + 1) k b → isW W d l 1 k (dnW W d l n b) := by
  intro n
  induction n with
  | zero => intro b h h2; exact h2
  | succ n ih =>
    intro b h h2
    rw [dnW]
    refine ih _ (by omega) ?_
    by_cases hq : wQ W d l (n + 1) = true
    · rw [if_pos hq]
      exact Or.inr ⟨Nat.le_refl _, h, hq, fun s h1 h2 => by omega⟩
    · rw [if_neg hq]
      have hq' : wQ W d l (n + 1) = false := by simpa using hq
      rcases h2 with ⟨g1, g2⟩ | ⟨g1, g2, g3, g4⟩
      · refine Or.inl ⟨g1, fun s h1 h2 => ?_⟩
        by_cases e : s = n + 1
        · rw [e]; exact hq'
        · exact g2 s (by omega) h2
      · refine Or.inr ⟨by omega, g2, g3, fun s h1 h2 => ?_⟩
        by_cases e : s = n + 1
        · rw [e]; exact hq'
        · exact g4 s (by omega) h2
theorem isW_un {W : Nat → Nat} {d l k r r' : Nat} (h : isW W d l 1 k r) (h' : isW W d l 1 k r') : r = r' := by
  rcases h with ⟨h1, h2⟩ | ⟨h1, h2, h3, h4⟩ <;> rcases h' with ⟨g1, g2⟩ | ⟨g1, g2, g3, g4⟩
  · rw [h1, g1]
  · have := h2 r' g1 g2; rw [g3] at this; cases this
  · have := g2 r h1 h2; rw [h3] at this; cases this
  · rcases Nat.lt_trichotomy r r' with q | q | q
    · have := g4 r h1 q; rw [h3] at this; cases this
    · exact q
    · have := h4 r' g1 q; rw [g3] at this; cases this
theorem upW_dnW {W : Nat → Nat} {k d l : Nat} : dnW W d l k 0 = upW W k d l k 1 :=
  isW_un (dnW_is k 0 (Nat.le_refl k) (Or.inl ⟨rfl, fun s h1 h2 => by omega⟩)) (upW_is k 1 (by omega))
theorem upW_le {W : Nat → Nat} {k d l : Nat} : upW W k d l k 1 ≤ k := by
  rcases upW_is (W := W) (k := k) (d := d) (l := l) k 1 (by omega) with ⟨g1, -⟩ | ⟨-, g2, -⟩
  · omega
  · exact g2
/-- the table, its first m places filled -/
def tabW (k d : Nat) : Nat → Nat → Nat
  | 0 => fun _ => 0
  | m + 1 => fun l => if l = m then upW (tabW k d m) k d m k 1 else tabW k d m l
theorem tabW_le {k d : Nat} : ∀ (m l : Nat), tabW k d m l ≤ k := by
  intro m
  induction m with
  | zero => intro l; exact Nat.zero_le k
  | succ m ih =>
    intro l
    show (if l = m then upW (tabW k d m) k d m k 1 else tabW k d m l) ≤ k
    by_cases e : l = m
    · rw [if_pos e]; exact upW_le
    · rw [if_neg e]; exact ih l
/-- the class writes NONE for none -/
def cN (n : Nat) : Int32 := if n = 0 then -6 else nI n
theorem cN_6 {n : Nat} (hn : n < 100) : (cN n = -6 ↔ n = 0) := by
  unfold cN
  by_cases e : n = 0
  · simp [e]
  · rw [if_neg e]
    refine ⟨fun q => ?_, fun q => absurd q e⟩
    have h1 := nI_toInt (n := n) (by omega)
    rw [q] at h1
    have h6 : (-6 : Int32).toInt = -6 := rfl
    omega
theorem i10 : ¬ (10 : Int32) = 0 := by decide
theorem b100 {j : Nat} (hj : j < 100) : inB (nI j) 100 = true := inB_nI hj (by decide)
theorem c100 {j : Nat} (hj : j < 100) : (nI j).toNatClampNeg = j := nI_clamp (by omega)
theorem gtN {a b : Nat} (ha : a < 1000) (hb : b < 1000) : (nI a > nI b) = (b < a) := propext (nI_ltI (by omega) (by omega))
theorem geN {a b : Nat} (ha : a < 1000) (hb : b < 1000) : (nI a ≥ nI b) = (b ≤ a) := propext (nI_leI (by omega) (by omega))
theorem leN {a b : Nat} (ha : a < 1000) (hb : b < 1000) : (nI a ≤ nI b) = (a ≤ b) := propext (nI_leI (by omega) (by omega))
theorem ltN {a b : Nat} (ha : a < 1000) (hb : b < 1000) : (nI a < nI b) = (a < b) := propext (nI_ltI (by omega) (by omega))
theorem eqN {a b : Nat} (ha : a < 1000) (hb : b < 1000) : (nI a = nI b) = (a = b) := propext (nI_eq (by omega) (by omega))
theorem x_upL {X : Scr} {w : AW} {k d l : Nat} {W : Nat → Nat} (h : OK w) (hk : k < 10) (hd : d < 10) (hl : l < 100) (hW : ∀ i, i < l → aget w 35 i = cN (W i)) (hWk : ∀ i, W i < 100) : ∀ (f t : Nat), t + f = k + 1 → 1 ≤ t → ∀ v : Value, isSec v = false → Z X 78 3 [.ref 0, .int (nI l), .int (nI k), .int (nI d), .int (nI t), v] [] w = some (some (.int (cN (upW W k d l f t))), w) := by
  intro f
  induction f with
  | zero =>
    intro t ht h1 v hv
    have e : nI t > nI k := nI_lt (by omega) (by omega)
    rw [z78_3]
    simp only [z78_0, z78_1, z78_5, z78_6, z78_9, z78_11, z78_12, z78_15, z78_16, z78_18, z78_19, z78_21, z78_23, z78_25, z78_28, z78_30, z78_32, z78_33, z78_34, z78_37, z78_38, z78_41, z78_43, z78_44, z78_46, z78_49, z78_51, z78_52, z78_55, z78_58, z78_60, Option.bind_some, Option.toList_some, Option.toList_none, List.cons_append, List.nil_append, sc_i, sc_r, sc_l, sc_u, sc_s, List.length_nil, List.length_cons, Nat.reduceAdd, Nat.reduceLeDiff, Nat.zero_le, le4_0, le4_1, le4_2, le4_3, rz0, rz1, rzt, eq_self, tI_0, tI_n0, if_true, if_false, ne_eq, not_true_eq_false, not_false_eq_true, and_self, Bool.false_eq_true, e]
    rfl
  | succ f ih =>
    intro t ht h1 v hv
    rw [z78_3, upW]
    by_cases hc : t ≤ k ∧ t ≤ l
    · have e1 : ¬ k < t := by omega
      have e2 : ¬ l < t := by omega
      have es : nI l - nI t = nI (l - t) := pk_sub hc.2
      have e99 : ¬ (nI (l - t) > 99) := by rw [show (99 : Int32) = nI 99 from rfl]; exact i32_nlt.mpr (nI_le (by omega) (by decide))
      have e3 : nI (l - t) - nI (l - t) / 10 * 10 = nI ((l - t) % 10) := pk_rem (d := 10) (by omega) (by decide) (by decide)
      have hi : l - t < 100 := by omega
      have hw := hW (l - t) (by omega)
      have hnx : nI t + 1 = nI (t + 1) := nI_1 t
      have i1 := ih (t + 1) (by omega) (by omega) (.int (nI (l - t))) sc_i
      rw [if_pos hc]
      simp only [z78_0, z78_1, z78_5, z78_6, z78_9, z78_11, z78_12, z78_15, z78_16, z78_18, z78_19, z78_21, z78_23, z78_25, z78_28, z78_30, z78_32, z78_33, z78_34, z78_37, z78_38, z78_41, z78_43, z78_44, z78_46, z78_49, z78_51, z78_52, z78_55, z78_58, z78_60, Option.bind_some, Option.toList_some, Option.toList_none, List.cons_append, List.nil_append, sc_i, sc_r, sc_l, sc_u, sc_s, List.length_nil, List.length_cons, Nat.reduceAdd, Nat.reduceLeDiff, Nat.zero_le, le4_0, le4_1, le4_2, le4_3, rz0, rz1, rzt, eq_self, fo_f, fo_a, fo_j, co_f, co_a, co_j, ao_f, ao_a, ao_j, zo_f, zo_a, zo_j, jo_f, jo_a, jo_j, al_f, al_a, al_j, fg_a, fg_j, ag_f, ag_j, jg_f, jg_a, fk_f, fk_a, fk_j, fi_a, fi_j, tI_0, tI_n0, if_true, if_false, ne_eq, not_true_eq_false, not_false_eq_true, and_self, Bool.false_eq_true, gtN (show t < 1000 by omega) (show k < 1000 by omega), gtN (show t < 1000 by omega) (show l < 1000 by omega), eqN (show (l - t) % 10 < 1000 by omega) (show d < 1000 by omega), e1, e2, es, e99, e3, hv, i10, oc0 h, of0_0 h, og0_0 h, of0_1 h, og0_1 h, of0_2 h, og0_2 h, of0_3 h, og0_3 h, of0_4 h, og0_4 h, of0_5 h, og0_5 h, of0_6 h, og0_6 h, of0_7 h, og0_7 h, of0_8 h, og0_8 h, of0_9 h, og0_9 h, of0_10 h, og0_10 h, oa35 h, ol35 h, b100 hi, c100 hi, hw, cN_6 (hWk (l - t)), hnx, i1]
      by_cases q1 : (l - t) % 10 = d
      · simp [q1, wQ]
      · by_cases q2 : W (l - t) = 0
        · have : wQ W d l t = true := by simp [wQ, q1, q2, hc.2]
          simp only [q1, q2, this, if_true, if_false, not_true_eq_false]
          rw [cN, if_neg (by omega)]
        · have : wQ W d l t = false := by simp [wQ, q1, q2, hc.2]
          simp [q1, q2, this]
    · rw [if_neg hc]
      by_cases q1 : k < t
      · simp only [z78_0, z78_1, z78_5, z78_6, z78_9, z78_11, z78_12, z78_15, z78_16, z78_18, z78_19, z78_21, z78_23, z78_25, z78_28, z78_30, z78_32, z78_33, z78_34, z78_37, z78_38, z78_41, z78_43, z78_44, z78_46, z78_49, z78_51, z78_52, z78_55, z78_58, z78_60, Option.bind_some, Option.toList_some, Option.toList_none, List.cons_append, List.nil_append, sc_i, sc_r, sc_l, sc_u, sc_s, List.length_nil, List.length_cons, Nat.reduceAdd, Nat.reduceLeDiff, Nat.zero_le, le4_0, le4_1, le4_2, le4_3, rz0, rz1, rzt, eq_self, tI_0, tI_n0, if_true, if_false, ne_eq, not_true_eq_false, not_false_eq_true, and_self, Bool.false_eq_true, gtN (show t < 1000 by omega) (show k < 1000 by omega), q1]
        rfl
      · have q2 : l < t := by omega
        simp only [z78_0, z78_1, z78_5, z78_6, z78_9, z78_11, z78_12, z78_15, z78_16, z78_18, z78_19, z78_21, z78_23, z78_25, z78_28, z78_30, z78_32, z78_33, z78_34, z78_37, z78_38, z78_41, z78_43, z78_44, z78_46, z78_49, z78_51, z78_52, z78_55, z78_58, z78_60, Option.bind_some, Option.toList_some, Option.toList_none, List.cons_append, List.nil_append, sc_i, sc_r, sc_l, sc_u, sc_s, List.length_nil, List.length_cons, Nat.reduceAdd, Nat.reduceLeDiff, Nat.zero_le, le4_0, le4_1, le4_2, le4_3, rz0, rz1, rzt, eq_self, tI_0, tI_n0, if_true, if_false, ne_eq, not_true_eq_false, not_false_eq_true, and_self, Bool.false_eq_true, gtN (show t < 1000 by omega) (show k < 1000 by omega), gtN (show t < 1000 by omega) (show l < 1000 by omega), q1, q2]
        rfl
theorem x_up {X : Scr} {w : AW} {k d l : Nat} {W : Nat → Nat} (h : OK w) (hk : k < 10) (hd : d < 10) (hl : l < 100) (hW : ∀ i, i < l → aget w 35 i = cN (W i)) (hWk : ∀ i, W i < 100) : Z X 78 0 [.ref 0, .int (nI l), .int (nI k), .int (nI d), uns, uns] [] w = some (some (.int (cN (upW W k d l k 1))), w) := by
  have h1 := x_upL (X := X) h hk hd hl hW hWk k 1 (by omega) (Nat.le_refl 1) uns sc_u
  have e : nI 1 = 1 := rfl
  rw [e] at h1
  simp only [z78_0, z78_1, z78_5, z78_6, z78_9, z78_11, z78_12, z78_15, z78_16, z78_18, z78_19, z78_21, z78_23, z78_25, z78_28, z78_30, z78_32, z78_33, z78_34, z78_37, z78_38, z78_41, z78_43, z78_44, z78_46, z78_49, z78_51, z78_52, z78_55, z78_58, z78_60, Option.bind_some, Option.toList_some, Option.toList_none, List.cons_append, List.nil_append, sc_i, sc_r, sc_l, sc_u, sc_s, List.length_nil, List.length_cons, Nat.reduceAdd, Nat.reduceLeDiff, Nat.zero_le, le4_0, le4_1, le4_2, le4_3, rz0, rz1, rzt, eq_self, h1]
theorem x_tabT {X : Scr} {k d n : Nat} {v : Value} (hk : k < 10) (hd : d < 10) (hn : n < 100) : ∀ (c m : Nat), m + c = n + 1 → ∀ w : AW, OK w → (∀ i, i < m → aget w 35 i = cN (tabW k d m i)) → ∃ g : Nat → Int32, Z X 77 49 [.ref 0, .int (nI n), .int (nI k), .int (nI d), v, .int (nI m)] [] w = Z X 77 76 [.ref 0, .int (nI n), .int (nI k), .int (nI d), v, .int (nI (n + 1))] [] (aset w 35 g) ∧ ∀ i, i < n + 1 → g i = cN (tabW k d (n + 1) i) := by
  intro c
  induction c with
  | zero =>
    intro m hm w ok hw
    have e : m = n + 1 := by omega
    subst e
    refine ⟨aget w 35, ?_, hw⟩
    rw [aset_id rfl, z77_49]
    simp only [z77_51, z77_52, gtN (show n + 1 < 1000 by omega) (show n < 1000 by omega), show n < n + 1 by omega, if_true]
  | succ c ih =>
    intro m hm w ok hw
    have e : ¬ n < m := by omega
    have hm100 : m < 100 := by omega
    have hup := x_up (X := X) ok hk hd hm100 hw (fun i => by have := tabW_le (k := k) (d := d) m i; omega)
    have ok' : OK (aset w 35 (upd (aget w 35) m (cN (upW (tabW k d m) k d m k 1)))) := ok_a ok
    obtain ⟨g, g1, g2⟩ := ih (m + 1) (by omega) (aset w 35 (upd (aget w 35) m (cN (upW (tabW k d m) k d m k 1)))) ok' (fun i hi => by
      rw [ag_s (oa35 ok), updI]
      show _ = cN (if i = m then upW (tabW k d m) k d m k 1 else tabW k d m i)
      by_cases q : i = m
      · rw [if_pos q, if_pos q]
      · rw [if_neg q, if_neg q]; exact hw i (by omega))
    refine ⟨g, ?_, g2⟩
    rw [as_s] at g1
    rw [← g1, z77_49]
    have hnx : nI m + 1 = nI (m + 1) := nI_1 m
    simp only [z77_51, z77_52, z77_55, z77_56, z77_59, z77_61, z77_62, z77_64, z77_65, z77_66, z77_69, z77_70, z77_73, Option.bind_some, Option.toList_some, Option.toList_none, List.cons_append, List.nil_append, sc_i, sc_r, sc_l, sc_u, sc_s, List.length_nil, List.length_cons, Nat.reduceAdd, Nat.reduceLeDiff, Nat.zero_le, le4_0, le4_1, le4_2, le4_3, rz0, rz1, rzt, eq_self, fo_f, fo_a, fo_j, co_f, co_a, co_j, ao_f, ao_a, ao_j, zo_f, zo_a, zo_j, jo_f, jo_a, jo_j, al_f, al_a, al_j, fg_a, fg_j, ag_f, ag_j, jg_f, jg_a, fk_f, fk_a, fk_j, fi_a, fi_j, tI_0, tI_n0, if_true, if_false, ne_eq, not_true_eq_false, not_false_eq_true, and_self, Bool.false_eq_true, gtN (show m < 1000 by omega) (show n < 1000 by omega), e, oc0 ok, of0_0 ok, og0_0 ok, of0_1 ok, og0_1 ok, of0_2 ok, og0_2 ok, of0_3 ok, og0_3 ok, of0_4 ok, og0_4 ok, of0_5 ok, og0_5 ok, of0_6 ok, og0_6 ok, of0_7 ok, og0_7 ok, of0_8 ok, og0_8 ok, of0_9 ok, og0_9 ok, of0_10 ok, og0_10 ok, oa35 ok, ol35 ok, hup, b100 hm100, c100 hm100, hnx]
