/-! lent -/
def orT (t : Nat → Int32) (s : Int32) : Nat → Nat → Int32 → Int32
  | 0, _, a => a
  | n + 1, k, a => orT t s n (k + 1) (if bq s k = true then a ||| t k else a)
theorem orT_or {t : Nat → Int32} {s : Int32} : ∀ (n k : Nat) (a b : Int32), orT t s n k (a ||| b) = a ||| orT t s n k b := by
  intro n
  induction n with
  | zero => intro k a b; rfl
  | succ n ih =>
    intro k a b
    rw [orT, orT]
    by_cases e : bq s k = true
    · rw [if_pos e, if_pos e, Int32.or_assoc, ih]
    · rw [if_neg e, if_neg e, ih]
theorem orT_c {t t' : Nat → Int32} {s : Int32} (h : ∀ k, k < 8 → t k = t' k) : ∀ (n k : Nat) (a : Int32), k + n = 8 → orT t s n k a = orT t' s n k a := by
  intro n
  induction n with
  | zero => intro k a _; rfl
  | succ n ih =>
    intro k a hk
    rw [orT, orT, h k (by omega), ih _ _ (by omega)]
/-- one step further -/
def rc (t : Nat → Int32) (l : Int32) (j : Nat) : Nat → Int32
  | 0 => (1 : Int32) <<< (nI j &&& 31)
  | s + 1 => rc t l j s ||| (orT t (rc t l j s) 8 0 0 &&& l)
theorem rc_c {t t' : Nat → Int32} {l : Int32} {j : Nat} (h : ∀ k, k < 8 → t k = t' k) : ∀ s, rc t l j s = rc t' l j s := by
  intro s
  induction s with
  | zero => rfl
  | succ s ih => rw [rc, rc, ih, orT_c h 8 0 0 rfl]
theorem i32_dist {a b c : Int32} : (a ||| b) &&& c = (a &&& c) ||| (b &&& c) := by
  rw [← Int32.toBitVec_inj]
  simp only [Int32.toBitVec_and, Int32.toBitVec_or]
  ext i hi
  simp only [BitVec.getElem_and, BitVec.getElem_or, Bool.and_or_distrib_right]
theorem sh_l : ∀ l, l < 256 → ∀ j, j < 8 → bq (nI l) j = true → ((1 : Int32) <<< (nI j &&& 31)) &&& nI l = (1 : Int32) <<< (nI j &&& 31) := by decide +kernel
theorem rc_l {t : Nat → Int32} {l : Int32} {j : Nat} (hj : j < 8) (hl : rng l 255) (hb : bq l j = true) : ∀ s, rc t l j s &&& l = rc t l j s := by
  intro s
  induction s with
  | zero =>
    obtain ⟨m, hm, rfl⟩ := hl
    exact sh_l m (by omega) j hj hb
  | succ s ih => rw [rc, i32_dist, ih, Int32.and_assoc, Int32.and_self]
theorem rc_m {t : Nat → Int32} {l : Int32} {j : Nat} (hj : j < 8) (hl : rng l 255) (hb : bq l j = true) (s : Nat) : orT t (rc t l j s) 8 0 (rc t l j s) &&& l = rc t l j (s + 1) := by
  have h1 := orT_or (t := t) (s := rc t l j s) 8 0 (rc t l j s) 0
  rw [Int32.or_zero] at h1
  rw [h1, i32_dist, rc_l hj hl hb, rc]
def fw (t : Nat → Int32) (l : Int32) (j z : Nat) : Nat → Nat → Int32
  | 0, _ => -6
  | n + 1, s => if bq (rc t l j s) z = true then nI s else fw t l j z n (s + 1)
theorem fw_c {t t' : Nat → Int32} {l : Int32} {j z : Nat} (h : ∀ k, k < 8 → t k = t' k) : ∀ n s, fw t l j z n s = fw t' l j z n s := by
  intro n
  induction n with
  | zero => intro s; rfl
  | succ n ih => intro s; rw [fw, fw, rc_c h, ih]
theorem fw_r {t : Nat → Int32} {l : Int32} {j z : Nat} : ∀ n s, fw t l j z n s = -6 ∨ ∃ m, m < s + n ∧ s ≤ m ∧ fw t l j z n s = nI m := by
  intro n
  induction n with
  | zero => intro s; exact Or.inl rfl
  | succ n ih =>
    intro s
    rw [fw]
    by_cases e : bq (rc t l j s) z = true
    · rw [if_pos e]; exact Or.inr ⟨s, by omega, Nat.le_refl s, rfl⟩
    · rw [if_neg e]
      rcases ih (s + 1) with q | ⟨m, h1, h2, h3⟩
      · exact Or.inl q
      · exact Or.inr ⟨m, by omega, by omega, h3⟩
theorem x_nbL {X : Scr} {w : AW} {F : Nat} {s : Int32} (h : famOK w F) : ∀ (n k : Nat), k + n = 8 → ∀ a : Int32, Z X 53 4 [.ref F, .int s, .int a, .int (nI k)] [] w = some (some (.int (orT (aget w (F + 4)) s n k a &&& fI w F 4)), w) := by
  intro n
  induction n with
  | zero =>
    intro k hk a
    have hk : k = 8 := hk
    subst hk
    have e : nI 8 ≥ 8 := by decide
    rw [z53_4]
    simp only [z53_0, z53_1, z53_2, z53_3, z53_5, z53_7, z53_10, z53_11, z53_12, z53_15, z53_18, z53_19, z53_20, z53_23, z53_24, z53_25, z53_26, z53_27, z53_30, z53_33, z53_34, z53_35, z53_38, z53_39, Option.bind_some, Option.toList_some, Option.toList_none, List.cons_append, List.nil_append, sc_i, sc_r, sc_l, sc_u, sc_s, List.length_nil, List.length_cons, Nat.reduceAdd, Nat.reduceLeDiff, Nat.zero_le, le4_0, le4_1, le4_2, le4_3, rz0, rz1, rzt, eq_self, tI_0, tI_n0, if_true, if_false, ne_eq, not_true_eq_false, not_false_eq_true, and_self, Bool.false_eq_true, e, fam_o h (show 4 < 7 by decide), fam_4 h]
    rfl
  | succ n ih =>
    intro k hk a
    have hk8 : k < 8 := by omega
    rw [z53_4, orT]
    by_cases e : bq s k = true
    · simp only [z53_0, z53_1, z53_2, z53_3, z53_5, z53_7, z53_10, z53_11, z53_12, z53_15, z53_18, z53_19, z53_20, z53_23, z53_24, z53_25, z53_26, z53_27, z53_30, z53_33, z53_34, z53_35, z53_38, z53_39, Option.bind_some, Option.toList_some, Option.toList_none, List.cons_append, List.nil_append, sc_i, sc_r, sc_l, sc_u, sc_s, List.length_nil, List.length_cons, Nat.reduceAdd, Nat.reduceLeDiff, Nat.zero_le, le4_0, le4_1, le4_2, le4_3, rz0, rz1, rzt, eq_self, fo_f, fo_a, fo_j, co_f, co_a, co_j, ao_f, ao_a, ao_j, zo_f, zo_a, zo_j, jo_f, jo_a, jo_j, al_f, al_a, al_j, fg_a, fg_j, ag_f, ag_j, jg_f, jg_a, fk_f, fk_a, fk_j, fi_a, fi_j, tI_0, tI_n0, if_true, if_false, ne_eq, not_true_eq_false, not_false_eq_true, and_self, Bool.false_eq_true, nI_nge8 hk8, x_isOfN2 (show k < 10 by omega), e, fam_o h (show 3 < 7 by decide), fam_3 h, fam_a4 h, fam_l4 h, b8 hk8, c8 hk8, nI_1, ih (k + 1) (by omega)]
    · simp only [z53_0, z53_1, z53_2, z53_3, z53_5, z53_7, z53_10, z53_11, z53_12, z53_15, z53_18, z53_19, z53_20, z53_23, z53_24, z53_25, z53_26, z53_27, z53_30, z53_33, z53_34, z53_35, z53_38, z53_39, Option.bind_some, Option.toList_some, Option.toList_none, List.cons_append, List.nil_append, sc_i, sc_r, sc_l, sc_u, sc_s, List.length_nil, List.length_cons, Nat.reduceAdd, Nat.reduceLeDiff, Nat.zero_le, le4_0, le4_1, le4_2, le4_3, rz0, rz1, rzt, eq_self, fo_f, fo_a, fo_j, co_f, co_a, co_j, ao_f, ao_a, ao_j, zo_f, zo_a, zo_j, jo_f, jo_a, jo_j, al_f, al_a, al_j, fg_a, fg_j, ag_f, ag_j, jg_f, jg_a, fk_f, fk_a, fk_j, fi_a, fi_j, tI_0, tI_n0, if_true, if_false, ne_eq, not_true_eq_false, not_false_eq_true, and_self, Bool.false_eq_true, nI_nge8 hk8, x_isOfN2 (show k < 10 by omega), e, nI_1, ih (k + 1) (by omega)]
theorem x_nb {X : Scr} {w : AW} {F : Nat} {s : Int32} (h : famOK w F) : Z X 53 0 [.ref F, .int s, uns, uns] [] w = some (some (.int (orT (aget w (F + 4)) s 8 0 0 &&& fI w F 4)), w) := by
  have h1 := x_nbL (X := X) (s := s) h 8 0 rfl 0
  have z0 : nI 0 = 0 := rfl
  rw [z0] at h1
  simp only [z53_0, z53_1, z53_2, z53_3, z53_5, z53_7, z53_10, z53_11, z53_12, z53_15, z53_18, z53_19, z53_20, z53_23, z53_24, z53_25, z53_26, z53_27, z53_30, z53_33, z53_34, z53_35, z53_38, z53_39, Option.bind_some, Option.toList_some, Option.toList_none, List.cons_append, List.nil_append, sc_i, sc_r, sc_l, sc_u, sc_s, List.length_nil, List.length_cons, Nat.reduceAdd, Nat.reduceLeDiff, Nat.zero_le, le4_0, le4_1, le4_2, le4_3, rz0, rz1, rzt, eq_self, h1]
theorem x_fewL {X : Scr} {w : AW} {F j z : Nat} (h : famOK w F) (hz : z < 8) : ∀ (n s : Nat), s + n = 8 → Z X 52 7 [.ref F, .int (nI j), .int (nI z), .int (rc (aget w (F + 4)) (fI w F 4) j s), .int (nI s)] [] w = some (some (.int (fw (aget w (F + 4)) (fI w F 4) j z n s)), w) := by
  intro n
  induction n with
  | zero =>
    intro s hs
    have hs : s = 8 := hs
    subst hs
    have e : nI 8 ≥ 8 := by decide
    rw [z52_7]
    simp only [z52_0, z52_1, z52_2, z52_3, z52_4, z52_5, z52_9, z52_11, z52_14, z52_15, z52_16, z52_19, z52_22, z52_24, z52_25, z52_26, z52_27, z52_28, z52_31, z52_32, z52_33, z52_36, z52_39, z52_41, Option.bind_some, Option.toList_some, Option.toList_none, List.cons_append, List.nil_append, sc_i, sc_r, sc_l, sc_u, sc_s, List.length_nil, List.length_cons, Nat.reduceAdd, Nat.reduceLeDiff, Nat.zero_le, le4_0, le4_1, le4_2, le4_3, rz0, rz1, rzt, eq_self, tI_0, tI_n0, if_true, if_false, ne_eq, not_true_eq_false, not_false_eq_true, and_self, Bool.false_eq_true, e]
    rfl
  | succ n ih =>
    intro s hs
    have hs8 : s < 8 := by omega
    have i1 := ih (s + 1) (by omega)
    rw [rc] at i1
    rw [z52_7, fw]
    by_cases e : bq (rc (aget w (F + 4)) (fI w F 4) j s) z = true
    · simp only [z52_0, z52_1, z52_2, z52_3, z52_4, z52_5, z52_9, z52_11, z52_14, z52_15, z52_16, z52_19, z52_22, z52_24, z52_25, z52_26, z52_27, z52_28, z52_31, z52_32, z52_33, z52_36, z52_39, z52_41, Option.bind_some, Option.toList_some, Option.toList_none, List.cons_append, List.nil_append, sc_i, sc_r, sc_l, sc_u, sc_s, List.length_nil, List.length_cons, Nat.reduceAdd, Nat.reduceLeDiff, Nat.zero_le, le4_0, le4_1, le4_2, le4_3, rz0, rz1, rzt, eq_self, fo_f, fo_a, fo_j, co_f, co_a, co_j, ao_f, ao_a, ao_j, zo_f, zo_a, zo_j, jo_f, jo_a, jo_j, al_f, al_a, al_j, fg_a, fg_j, ag_f, ag_j, jg_f, jg_a, fk_f, fk_a, fk_j, fi_a, fi_j, tI_0, tI_n0, if_true, if_false, ne_eq, not_true_eq_false, not_false_eq_true, and_self, Bool.false_eq_true, nI_nge8 hs8, x_isOfN2 (show z < 10 by omega), e]
    · simp only [z52_0, z52_1, z52_2, z52_3, z52_4, z52_5, z52_9, z52_11, z52_14, z52_15, z52_16, z52_19, z52_22, z52_24, z52_25, z52_26, z52_27, z52_28, z52_31, z52_32, z52_33, z52_36, z52_39, z52_41, Option.bind_some, Option.toList_some, Option.toList_none, List.cons_append, List.nil_append, sc_i, sc_r, sc_l, sc_u, sc_s, List.length_nil, List.length_cons, Nat.reduceAdd, Nat.reduceLeDiff, Nat.zero_le, le4_0, le4_1, le4_2, le4_3, rz0, rz1, rzt, eq_self, fo_f, fo_a, fo_j, co_f, co_a, co_j, ao_f, ao_a, ao_j, zo_f, zo_a, zo_j, jo_f, jo_a, jo_j, al_f, al_a, al_j, fg_a, fg_j, ag_f, ag_j, jg_f, jg_a, fk_f, fk_a, fk_j, fi_a, fi_j, tI_0, tI_n0, if_true, if_false, ne_eq, not_true_eq_false, not_false_eq_true, and_self, Bool.false_eq_true, nI_nge8 hs8, x_isOfN2 (show z < 10 by omega), e, fam_c h, x_nb h, nI_1, i1]
theorem x_few {X : Scr} {w : AW} {F j z : Nat} (h : famOK w F) (hz : z < 8) : Z X 52 0 [.ref F, .int (nI j), .int (nI z), uns, uns] [] w = some (some (.int (fw (aget w (F + 4)) (fI w F 4) j z 8 0)), w) := by
  have h1 := x_fewL (X := X) (j := j) h hz 8 0 rfl
  have z0 : nI 0 = 0 := rfl
  rw [z0, rc] at h1
  simp only [z52_0, z52_1, z52_2, z52_3, z52_4, z52_5, z52_9, z52_11, z52_14, z52_15, z52_16, z52_19, z52_22, z52_24, z52_25, z52_26, z52_27, z52_28, z52_31, z52_32, z52_33, z52_36, z52_39, z52_41, Option.bind_some, Option.toList_some, Option.toList_none, List.cons_append, List.nil_append, sc_i, sc_r, sc_l, sc_u, sc_s, List.length_nil, List.length_cons, Nat.reduceAdd, Nat.reduceLeDiff, Nat.zero_le, le4_0, le4_1, le4_2, le4_3, rz0, rz1, rzt, eq_self, h1]
/-- the first that does, the last written over -/
def upP (P : Nat → Bool) : Nat → Nat → Int32
  | 0, _ => -6
  | n + 1, k => if P k = true then nI k else upP P n (k + 1)
def dnP (P : Nat → Bool) : Nat → Int32 → Int32
  | 0, a => a
  | n + 1, a => dnP P n (if P n = true then nI n else a)
theorem dn_up {P : Nat → Bool} : ∀ n m, dnP P n (upP P m n) = upP P (n + m) 0 := by
  intro n
  induction n with
  | zero => intro m; rw [Nat.zero_add]; rfl
  | succ n ih =>
    intro m
    have := ih (m + 1)
    rw [upP] at this
    rw [dnP, this]
    congr 1
    omega
theorem upP_c {P Q : Nat → Bool} (h : ∀ k, k < 8 → P k = Q k) : ∀ n k, k + n = 8 → upP P n k = upP Q n k := by
  intro n
  induction n with
  | zero => intro k _; rfl
  | succ n ih => intro k hk; rw [upP, upP, h k (by omega), ih (k + 1) (by omega)]
theorem sh_b : ∀ j, j < 8 → ∀ k, k < 8 → bq ((1 : Int32) <<< (nI j &&& 31)) k = decide (k = j) := by decide +kernel
theorem orT_1 {t : Nat → Int32} {j : Nat} (hj : j < 8) : ∀ (n k : Nat) (a : Int32), k + n = 8 → orT t ((1 : Int32) <<< (nI j &&& 31)) n k a = if k ≤ j then a ||| t j else a := by
  intro n
  induction n with
  | zero => intro k a hk; rw [orT, if_neg (by omega)]
  | succ n ih =>
    intro k a hk
    rw [orT, sh_b j hj k (by omega), ih (k + 1) _ (by omega)]
    by_cases e : k = j
    · subst e
      rw [if_neg (by omega), if_pos (Nat.le_refl k), if_pos (by simp)]
    · have e2 : ¬ (decide (k = j) = true) := by simp [e]
      rw [if_neg e2]
      by_cases q : k ≤ j
      · rw [if_pos (by omega), if_pos q]
      · rw [if_neg (by omega), if_neg q]
def onP (t : Nat → Int32) (l : Int32) (j z : Nat) (x : Int32) (k : Nat) : Bool := bq (t j &&& l) k && decide (fw t l k z 8 0 = x - 1)
theorem x_wayL {X : Scr} {w : AW} {F j z : Nat} {x : Int32} (h : famOK w F) (hz : z < 8) : ∀ (n k : Nat), k + n = 8 → Z X 54 32 [.ref F, .int (nI j), .int (nI z), .int x, .int (aget w (F + 4) j &&& fI w F 4), .int (nI k)] [] w = some (some (.int (upP (onP (aget w (F + 4)) (fI w F 4) j z x) n k)), w) := by
  intro n
  induction n with
  | zero =>
    intro k hk
    have hk : k = 8 := hk
    subst hk
    have e : nI 8 ≥ 8 := by decide
    rw [z54_32]
    simp only [z54_0, z54_1, z54_2, z54_3, z54_6, z54_7, z54_8, z54_10, z54_13, z54_14, z54_17, z54_19, z54_20, z54_21, z54_22, z54_23, z54_24, z54_27, z54_29, z54_30, z54_34, z54_36, z54_39, z54_41, z54_43, z54_46, z54_49, z54_50, z54_52, z54_53, z54_56, z54_57, z54_58, z54_59, z54_62, z54_64, z54_65, z54_68, z54_71, z54_73, Option.bind_some, Option.toList_some, Option.toList_none, List.cons_append, List.nil_append, sc_i, sc_r, sc_l, sc_u, sc_s, List.length_nil, List.length_cons, Nat.reduceAdd, Nat.reduceLeDiff, Nat.zero_le, le4_0, le4_1, le4_2, le4_3, rz0, rz1, rzt, eq_self, tI_0, tI_n0, if_true, if_false, ne_eq, not_true_eq_false, not_false_eq_true, and_self, Bool.false_eq_true, e]
    rfl
  | succ n ih =>
    intro k hk
    have hk8 : k < 8 := by omega
    rw [z54_32, upP, onP]
    by_cases e : bq (aget w (F + 4) j &&& fI w F 4) k = true
    · by_cases e2 : fw (aget w (F + 4)) (fI w F 4) k z 8 0 = x - 1
      · simp only [z54_0, z54_1, z54_2, z54_3, z54_6, z54_7, z54_8, z54_10, z54_13, z54_14, z54_17, z54_19, z54_20, z54_21, z54_22, z54_23, z54_24, z54_27, z54_29, z54_30, z54_34, z54_36, z54_39, z54_41, z54_43, z54_46, z54_49, z54_50, z54_52, z54_53, z54_56, z54_57, z54_58, z54_59, z54_62, z54_64, z54_65, z54_68, z54_71, z54_73, Option.bind_some, Option.toList_some, Option.toList_none, List.cons_append, List.nil_append, sc_i, sc_r, sc_l, sc_u, sc_s, List.length_nil, List.length_cons, Nat.reduceAdd, Nat.reduceLeDiff, Nat.zero_le, le4_0, le4_1, le4_2, le4_3, rz0, rz1, rzt, eq_self, fo_f, fo_a, fo_j, co_f, co_a, co_j, ao_f, ao_a, ao_j, zo_f, zo_a, zo_j, jo_f, jo_a, jo_j, al_f, al_a, al_j, fg_a, fg_j, ag_f, ag_j, jg_f, jg_a, fk_f, fk_a, fk_j, fi_a, fi_j, tI_0, tI_n0, if_true, if_false, ne_eq, not_true_eq_false, not_false_eq_true, and_self, Bool.false_eq_true, nI_nge8 hk8, x_isOfN2 (show k < 10 by omega), e, fam_c h, x_few h hz, e2, decide_true, Bool.and_self]
      · simp only [z54_0, z54_1, z54_2, z54_3, z54_6, z54_7, z54_8, z54_10, z54_13, z54_14, z54_17, z54_19, z54_20, z54_21, z54_22, z54_23, z54_24, z54_27, z54_29, z54_30, z54_34, z54_36, z54_39, z54_41, z54_43, z54_46, z54_49, z54_50, z54_52, z54_53, z54_56, z54_57, z54_58, z54_59, z54_62, z54_64, z54_65, z54_68, z54_71, z54_73, Option.bind_some, Option.toList_some, Option.toList_none, List.cons_append, List.nil_append, sc_i, sc_r, sc_l, sc_u, sc_s, List.length_nil, List.length_cons, Nat.reduceAdd, Nat.reduceLeDiff, Nat.zero_le, le4_0, le4_1, le4_2, le4_3, rz0, rz1, rzt, eq_self, fo_f, fo_a, fo_j, co_f, co_a, co_j, ao_f, ao_a, ao_j, zo_f, zo_a, zo_j, jo_f, jo_a, jo_j, al_f, al_a, al_j, fg_a, fg_j, ag_f, ag_j, jg_f, jg_a, fk_f, fk_a, fk_j, fi_a, fi_j, tI_0, tI_n0, if_true, if_false, ne_eq, not_true_eq_false, not_false_eq_true, and_self, Bool.false_eq_true, nI_nge8 hk8, x_isOfN2 (show k < 10 by omega), e, fam_c h, x_few h hz, e2, decide_false, Bool.and_false, nI_1, ih (k + 1) (by omega)]
    · have e' : bq (aget w (F + 4) j &&& fI w F 4) k = false := by simpa using e
      simp only [z54_0, z54_1, z54_2, z54_3, z54_6, z54_7, z54_8, z54_10, z54_13, z54_14, z54_17, z54_19, z54_20, z54_21, z54_22, z54_23, z54_24, z54_27, z54_29, z54_30, z54_34, z54_36, z54_39, z54_41, z54_43, z54_46, z54_49, z54_50, z54_52, z54_53, z54_56, z54_57, z54_58, z54_59, z54_62, z54_64, z54_65, z54_68, z54_71, z54_73, Option.bind_some, Option.toList_some, Option.toList_none, List.cons_append, List.nil_append, sc_i, sc_r, sc_l, sc_u, sc_s, List.length_nil, List.length_cons, Nat.reduceAdd, Nat.reduceLeDiff, Nat.zero_le, le4_0, le4_1, le4_2, le4_3, rz0, rz1, rzt, eq_self, fo_f, fo_a, fo_j, co_f, co_a, co_j, ao_f, ao_a, ao_j, zo_f, zo_a, zo_j, jo_f, jo_a, jo_j, al_f, al_a, al_j, fg_a, fg_j, ag_f, ag_j, jg_f, jg_a, fk_f, fk_a, fk_j, fi_a, fi_j, tI_0, tI_n0, if_true, if_false, ne_eq, not_true_eq_false, not_false_eq_true, and_self, Bool.false_eq_true, nI_nge8 hk8, x_isOfN2 (show k < 10 by omega), e', Bool.false_and, nI_1, ih (k + 1) (by omega)]
theorem x_way {X : Scr} {w : AW} {F j z : Nat} (h : famOK w F) (hj : j < 8) (hz : z < 8) : Z X 54 0 [.ref F, .int (nI j), .int (nI z), uns, uns, uns] [] w = some (some (.int (if fw (aget w (F + 4)) (fI w F 4) j z 8 0 = -6 ∨ fw (aget w (F + 4)) (fI w F 4) j z 8 0 = 0 then -6 else upP (onP (aget w (F + 4)) (fI w F 4) j z (fw (aget w (F + 4)) (fI w F 4) j z 8 0)) 8 0)), w) := by
  have h1 := x_wayL (X := X) (j := j) (x := fw (aget w (F + 4)) (fI w F 4) j z 8 0) h hz 8 0 rfl
  have z0 : nI 0 = 0 := rfl
  rw [z0] at h1
  have ho : orT (aget w (F + 4)) ((1 : Int32) <<< (nI j &&& 31)) 8 0 0 = aget w (F + 4) j := by
    rw [orT_1 hj 8 0 0 rfl, if_pos (Nat.zero_le j), Int32.zero_or]
  by_cases e1 : fw (aget w (F + 4)) (fI w F 4) j z 8 0 = -6
  · rw [if_pos (Or.inl e1)]
    simp only [z54_0, z54_1, z54_2, z54_3, z54_6, z54_7, z54_8, z54_10, z54_13, z54_14, z54_17, z54_19, z54_20, z54_21, z54_22, z54_23, z54_24, z54_27, z54_29, z54_30, z54_34, z54_36, z54_39, z54_41, z54_43, z54_46, z54_49, z54_50, z54_52, z54_53, z54_56, z54_57, z54_58, z54_59, z54_62, z54_64, z54_65, z54_68, z54_71, z54_73, Option.bind_some, Option.toList_some, Option.toList_none, List.cons_append, List.nil_append, sc_i, sc_r, sc_l, sc_u, sc_s, List.length_nil, List.length_cons, Nat.reduceAdd, Nat.reduceLeDiff, Nat.zero_le, le4_0, le4_1, le4_2, le4_3, rz0, rz1, rzt, eq_self, tI_0, tI_n0, if_true, if_false, ne_eq, not_true_eq_false, not_false_eq_true, and_self, Bool.false_eq_true, fam_c h, x_few h hz, e1]
  · by_cases e2 : fw (aget w (F + 4)) (fI w F 4) j z 8 0 = 0
    · rw [if_pos (Or.inr e2)]
      have e3 : ¬ (0 : Int32) = -6 := by decide
      simp only [z54_0, z54_1, z54_2, z54_3, z54_6, z54_7, z54_8, z54_10, z54_13, z54_14, z54_17, z54_19, z54_20, z54_21, z54_22, z54_23, z54_24, z54_27, z54_29, z54_30, z54_34, z54_36, z54_39, z54_41, z54_43, z54_46, z54_49, z54_50, z54_52, z54_53, z54_56, z54_57, z54_58, z54_59, z54_62, z54_64, z54_65, z54_68, z54_71, z54_73, Option.bind_some, Option.toList_some, Option.toList_none, List.cons_append, List.nil_append, sc_i, sc_r, sc_l, sc_u, sc_s, List.length_nil, List.length_cons, Nat.reduceAdd, Nat.reduceLeDiff, Nat.zero_le, le4_0, le4_1, le4_2, le4_3, rz0, rz1, rzt, eq_self, tI_0, tI_n0, if_true, if_false, ne_eq, not_true_eq_false, not_false_eq_true, and_self, Bool.false_eq_true, fam_c h, x_few h hz, e2, e3]
    · rw [if_neg (fun q => q.elim e1 e2)]
      simp only [z54_0, z54_1, z54_2, z54_3, z54_6, z54_7, z54_8, z54_10, z54_13, z54_14, z54_17, z54_19, z54_20, z54_21, z54_22, z54_23, z54_24, z54_27, z54_29, z54_30, z54_34, z54_36, z54_39, z54_41, z54_43, z54_46, z54_49, z54_50, z54_52, z54_53, z54_56, z54_57, z54_58, z54_59, z54_62, z54_64, z54_65, z54_68, z54_71, z54_73, Option.bind_some, Option.toList_some, Option.toList_none, List.cons_append, List.nil_append, sc_i, sc_r, sc_l, sc_u, sc_s, List.length_nil, List.length_cons, Nat.reduceAdd, Nat.reduceLeDiff, Nat.zero_le, le4_0, le4_1, le4_2, le4_3, rz0, rz1, rzt, eq_self, tI_0, tI_n0, if_true, if_false, ne_eq, not_true_eq_false, not_false_eq_true, and_self, Bool.false_eq_true, fam_c h, x_few h hz, e1, e2, x_nb h, ho, h1]
/-! the reference -/
theorem x_reiL {X : Scr} {w : AW} {r : Int32} {v1 v2 v4 : Value} (h0 : OK w) : ∀ (n k : Nat), k + n = 8 → ∀ a : Int32, Z X 137 24 [.ref 64, v1, v2, .int r, v4, .int a, .int (nI k)] [] w = Z X 137 62 [.ref 64, v1, v2, .int r, v4, .int (orT (aget w 68) r n k a), .int (nI 8)] [] w := by
  intro n
  induction n with
  | zero =>
    intro k hk a
    have hk : k = 8 := hk
    subst hk
    have e : nI 8 ≥ 8 := by decide
    rw [z137_24]
    simp only [z137_26, z137_28, Option.bind_some, Option.toList_some, Option.toList_none, List.cons_append, List.nil_append, sc_i, sc_r, sc_l, sc_u, sc_s, List.length_nil, List.length_cons, Nat.reduceAdd, Nat.reduceLeDiff, Nat.zero_le, le4_0, le4_1, le4_2, le4_3, rz0, rz1, rzt, eq_self, tI_0, tI_n0, if_true, if_false, ne_eq, not_true_eq_false, not_false_eq_true, and_self, Bool.false_eq_true, e]
    rfl
  | succ n ih =>
    intro k hk a
    have hk8 : k < 8 := by omega
    rw [z137_24, orT]
    by_cases e : bq r k = true
    · simp only [z137_0, z137_1, z137_2, z137_3, z137_4, z137_7, z137_8, z137_9, z137_10, z137_14, z137_15, z137_18, z137_19, z137_21, z137_22, z137_26, z137_28, z137_31, z137_33, z137_34, z137_36, z137_39, z137_42, z137_43, z137_46, z137_48, z137_49, z137_52, z137_53, z137_54, z137_56, z137_59, z137_64, z137_65, z137_68, z137_69, z137_70, z137_73, z137_76, z137_77, Option.bind_some, Option.toList_some, Option.toList_none, List.cons_append, List.nil_append, sc_i, sc_r, sc_l, sc_u, sc_s, List.length_nil, List.length_cons, Nat.reduceAdd, Nat.reduceLeDiff, Nat.zero_le, le4_0, le4_1, le4_2, le4_3, rz0, rz1, rzt, eq_self, fo_f, fo_a, fo_j, co_f, co_a, co_j, ao_f, ao_a, ao_j, zo_f, zo_a, zo_j, jo_f, jo_a, jo_j, al_f, al_a, al_j, fg_a, fg_j, ag_f, ag_j, jg_f, jg_a, fk_f, fk_a, fk_j, fi_a, fi_j, tI_0, tI_n0, if_true, if_false, ne_eq, not_true_eq_false, not_false_eq_true, and_self, Bool.false_eq_true, nI_nge8 hk8, x_mHasN, e, oc64 h0, of64_0 h0, og64_0 h0, ok64_0 h0, of64_1 h0, og64_1 h0, of64_2 h0, og64_2 h0, of64_3 h0, og64_3 h0, of64_4 h0, og64_4 h0, of64_5 h0, og64_5 h0, ok64_5 h0, of64_6 h0, og64_6 h0, ok64_6 h0, of64_7 h0, og64_7 h0, of64_8 h0, og64_8 h0, of64_9 h0, og64_9 h0, of64_10 h0, og64_10 h0, of64_11 h0, og64_11 h0, of64_12 h0, og64_12 h0, of64_13 h0, og64_13 h0, ok64_13 h0, of64_14 h0, og64_14 h0, of64_15 h0, og64_15 h0, ok64_15 h0, of64_16 h0, og64_16 h0, of64_17 h0, og64_17 h0, of64_18 h0, og64_18 h0, of64_19 h0, og64_19 h0, of64_20 h0, og64_20 h0, of64_21 h0, og64_21 h0, ok64_21 h0, of64_22 h0, og64_22 h0, of64_23 h0, og64_23 h0, ok64_23 h0, of64_24 h0, og64_24 h0, ok64_24 h0, of64_25 h0, og64_25 h0, ok64_25 h0, of64_26 h0, og64_26 h0, ok64_26 h0, of64_27 h0, og64_27 h0, ok64_27 h0, of64_28 h0, og64_28 h0, of64_29 h0, og64_29 h0, of64_30 h0, og64_30 h0, of64_31 h0, og64_31 h0, of64_32 h0, og64_32 h0, of64_33 h0, og64_33 h0, of64_34 h0, og64_34 h0, of64_35 h0, og64_35 h0, ok64_35 h0, of64_36 h0, og64_36 h0, ok64_36 h0, oa68 h0, ol68 h0, b8 hk8, c8 hk8, nI_1, ih (k + 1) (by omega)]
    · simp only [z137_0, z137_1, z137_2, z137_3, z137_4, z137_7, z137_8, z137_9, z137_10, z137_14, z137_15, z137_18, z137_19, z137_21, z137_22, z137_26, z137_28, z137_31, z137_33, z137_34, z137_36, z137_39, z137_42, z137_43, z137_46, z137_48, z137_49, z137_52, z137_53, z137_54, z137_56, z137_59, z137_64, z137_65, z137_68, z137_69, z137_70, z137_73, z137_76, z137_77, Option.bind_some, Option.toList_some, Option.toList_none, List.cons_append, List.nil_append, sc_i, sc_r, sc_l, sc_u, sc_s, List.length_nil, List.length_cons, Nat.reduceAdd, Nat.reduceLeDiff, Nat.zero_le, le4_0, le4_1, le4_2, le4_3, rz0, rz1, rzt, eq_self, fo_f, fo_a, fo_j, co_f, co_a, co_j, ao_f, ao_a, ao_j, zo_f, zo_a, zo_j, jo_f, jo_a, jo_j, al_f, al_a, al_j, fg_a, fg_j, ag_f, ag_j, jg_f, jg_a, fk_f, fk_a, fk_j, fi_a, fi_j, tI_0, tI_n0, if_true, if_false, ne_eq, not_true_eq_false, not_false_eq_true, and_self, Bool.false_eq_true, nI_nge8 hk8, x_mHasN, e, Int32.or_zero, nI_1, ih (k + 1) (by omega)]
theorem x_reL {X : Scr} {w : AW} {j m : Nat} {v1 : Value} (h0 : OK w) (hj : j < 8) (hm : m < 1000) (hl : rng (fI w 64 0) 255) (hb : bq (fI w 64 0) j = true) : ∀ (n s : Nat), s + n = m → ∀ v5 v6 : Value, isSec v5 = false → isSec v6 = false → Z X 137 12 [.ref 64, v1, .int (nI m), .int (rc (aget w 68) (fI w 64 0) j s), .int (nI s), v5, v6] [] w = some (some (.int (rc (aget w 68) (fI w 64 0) j m)), w) := by
  intro n
  induction n with
  | zero =>
    intro s hs v5 v6 h5 h6
    have hs : s = m := hs
    subst hs
    rw [z137_12]
    simp only [z137_14, z137_15, z137_76, z137_77, Option.bind_some, Option.toList_some, Option.toList_none, List.cons_append, List.nil_append, sc_i, sc_r, sc_l, sc_u, sc_s, List.length_nil, List.length_cons, Nat.reduceAdd, Nat.reduceLeDiff, Nat.zero_le, le4_0, le4_1, le4_2, le4_3, rz0, rz1, rzt, eq_self, tI_0, tI_n0, if_true, if_false, ne_eq, not_true_eq_false, not_false_eq_true, and_self, Bool.false_eq_true, geN (show s < 1000 by omega) (show s < 1000 by omega), Nat.le_refl]
  | succ n ih =>
    intro s hs v5 v6 h5 h6
    have e : ¬ m ≤ s := by omega
    have i1 := ih (s + 1) (by omega) (.int (orT (aget w 68) (rc (aget w 68) (fI w 64 0) j s) 8 0 (rc (aget w 68) (fI w 64 0) j s))) (.int (nI 8)) sc_i sc_i
    have i2 := x_reiL (X := X) (r := rc (aget w 68) (fI w 64 0) j s) (v1 := v1) (v2 := .int (nI m)) (v4 := .int (nI s)) h0 8 0 rfl (rc (aget w 68) (fI w 64 0) j s)
    have z0 : nI 0 = 0 := rfl
    rw [z0] at i2
    rw [z137_12]
    simp only [z137_14, z137_15, z137_18, z137_19, z137_21, z137_22, z137_62, z137_64, z137_65, z137_68, z137_69, z137_70, z137_73, Option.bind_some, Option.toList_some, Option.toList_none, List.cons_append, List.nil_append, sc_i, sc_r, sc_l, sc_u, sc_s, List.length_nil, List.length_cons, Nat.reduceAdd, Nat.reduceLeDiff, Nat.zero_le, le4_0, le4_1, le4_2, le4_3, rz0, rz1, rzt, eq_self, fo_f, fo_a, fo_j, co_f, co_a, co_j, ao_f, ao_a, ao_j, zo_f, zo_a, zo_j, jo_f, jo_a, jo_j, al_f, al_a, al_j, fg_a, fg_j, ag_f, ag_j, jg_f, jg_a, fk_f, fk_a, fk_j, fi_a, fi_j, tI_0, tI_n0, if_true, if_false, ne_eq, not_true_eq_false, not_false_eq_true, and_self, Bool.false_eq_true, geN (show s < 1000 by omega) hm, e, h5, h6, i2, oc64 h0, of64_0 h0, og64_0 h0, ok64_0 h0, of64_1 h0, og64_1 h0, of64_2 h0, og64_2 h0, of64_3 h0, og64_3 h0, of64_4 h0, og64_4 h0, of64_5 h0, og64_5 h0, ok64_5 h0, of64_6 h0, og64_6 h0, ok64_6 h0, of64_7 h0, og64_7 h0, of64_8 h0, og64_8 h0, of64_9 h0, og64_9 h0, of64_10 h0, og64_10 h0, of64_11 h0, og64_11 h0, of64_12 h0, og64_12 h0, of64_13 h0, og64_13 h0, ok64_13 h0, of64_14 h0, og64_14 h0, of64_15 h0, og64_15 h0, ok64_15 h0, of64_16 h0, og64_16 h0, of64_17 h0, og64_17 h0, of64_18 h0, og64_18 h0, of64_19 h0, og64_19 h0, of64_20 h0, og64_20 h0, of64_21 h0, og64_21 h0, ok64_21 h0, of64_22 h0, og64_22 h0, of64_23 h0, og64_23 h0, ok64_23 h0, of64_24 h0, og64_24 h0, ok64_24 h0, of64_25 h0, og64_25 h0, ok64_25 h0, of64_26 h0, og64_26 h0, ok64_26 h0, of64_27 h0, og64_27 h0, ok64_27 h0, of64_28 h0, og64_28 h0, of64_29 h0, og64_29 h0, of64_30 h0, og64_30 h0, of64_31 h0, og64_31 h0, of64_32 h0, og64_32 h0, of64_33 h0, og64_33 h0, of64_34 h0, og64_34 h0, of64_35 h0, og64_35 h0, ok64_35 h0, of64_36 h0, og64_36 h0, ok64_36 h0, rc_m hj hl hb, nI_1, i1]
theorem x_re {X : Scr} {w : AW} {j m : Nat} (h0 : OK w) (hj : j < 8) (hm : m < 1000) (hl : rng (fI w 64 0) 255) (hb : bq (fI w 64 0) j = true) : Z X 137 0 [.ref 64, .int (nI j), .int (nI m), uns, uns, uns, uns] [] w = some (some (.int (rc (aget w 68) (fI w 64 0) j m)), w) := by
  have h1 := x_reL (X := X) (v1 := .int (nI j)) h0 hj hm hl hb m 0 (by omega) uns uns sc_u sc_u
  have z0 : nI 0 = 0 := rfl
  have hr : ((1 : Int32) <<< (nI j &&& 31)) &&& fI w 64 0 = (1 : Int32) <<< (nI j &&& 31) := rc_l (t := aget w 68) hj hl hb 0
  rw [z0, rc] at h1
  simp only [z137_0, z137_1, z137_2, z137_3, z137_4, z137_7, z137_8, z137_9, z137_10, z137_14, z137_15, z137_18, z137_19, z137_21, z137_22, z137_26, z137_28, z137_31, z137_33, z137_34, z137_36, z137_39, z137_42, z137_43, z137_46, z137_48, z137_49, z137_52, z137_53, z137_54, z137_56, z137_59, z137_62, z137_64, z137_65, z137_68, z137_69, z137_70, z137_73, z137_76, z137_77, Option.bind_some, Option.toList_some, Option.toList_none, List.cons_append, List.nil_append, sc_i, sc_r, sc_l, sc_u, sc_s, List.length_nil, List.length_cons, Nat.reduceAdd, Nat.reduceLeDiff, Nat.zero_le, le4_0, le4_1, le4_2, le4_3, rz0, rz1, rzt, eq_self, oc64 h0, of64_0 h0, og64_0 h0, ok64_0 h0, of64_1 h0, og64_1 h0, of64_2 h0, og64_2 h0, of64_3 h0, og64_3 h0, of64_4 h0, og64_4 h0, of64_5 h0, og64_5 h0, ok64_5 h0, of64_6 h0, og64_6 h0, ok64_6 h0, of64_7 h0, og64_7 h0, of64_8 h0, og64_8 h0, of64_9 h0, og64_9 h0, of64_10 h0, og64_10 h0, of64_11 h0, og64_11 h0, of64_12 h0, og64_12 h0, of64_13 h0, og64_13 h0, ok64_13 h0, of64_14 h0, og64_14 h0, of64_15 h0, og64_15 h0, ok64_15 h0, of64_16 h0, og64_16 h0, of64_17 h0, og64_17 h0, of64_18 h0, og64_18 h0, of64_19 h0, og64_19 h0, of64_20 h0, og64_20 h0, of64_21 h0, og64_21 h0, ok64_21 h0, of64_22 h0, og64_22 h0, of64_23 h0, og64_23 h0, ok64_23 h0, of64_24 h0, og64_24 h0, ok64_24 h0, of64_25 h0, og64_25 h0, ok64_25 h0, of64_26 h0, og64_26 h0, ok64_26 h0, of64_27 h0, og64_27 h0, ok64_27 h0, of64_28 h0, og64_28 h0, of64_29 h0, og64_29 h0, of64_30 h0, og64_30 h0, of64_31 h0, og64_31 h0, of64_32 h0, og64_32 h0, of64_33 h0, og64_33 h0, of64_34 h0, og64_34 h0, of64_35 h0, og64_35 h0, ok64_35 h0, of64_36 h0, og64_36 h0, ok64_36 h0, hr, h1]
theorem x_farL {X : Scr} {w : AW} {j z : Nat} (h0 : OK w) (hj : j < 8) (hl : rng (fI w 64 0) 255) (hb : bq (fI w 64 0) j = true) : ∀ (n s : Nat), s + n = 8 → Z X 136 2 [.ref 64, .int (nI j), .int (nI z), .int (nI s)] [] w = some (some (.int (fw (aget w 68) (fI w 64 0) j z n s)), w) := by
  intro n
  induction n with
  | zero =>
    intro s hs
    have hs : s = 8 := hs
    subst hs
    have e : nI 8 ≥ 8 := by decide
    rw [z136_2]
    simp only [z136_0, z136_1, z136_3, z136_5, z136_8, z136_9, z136_10, z136_11, z136_14, z136_15, z136_18, z136_21, z136_22, z136_23, z136_26, z136_29, z136_31, Option.bind_some, Option.toList_some, Option.toList_none, List.cons_append, List.nil_append, sc_i, sc_r, sc_l, sc_u, sc_s, List.length_nil, List.length_cons, Nat.reduceAdd, Nat.reduceLeDiff, Nat.zero_le, le4_0, le4_1, le4_2, le4_3, rz0, rz1, rzt, eq_self, tI_0, tI_n0, if_true, if_false, ne_eq, not_true_eq_false, not_false_eq_true, and_self, Bool.false_eq_true, e]
    rfl
  | succ n ih =>
    intro s hs
    have hs8 : s < 8 := by omega
    rw [z136_2, fw]
    by_cases e : bq (rc (aget w 68) (fI w 64 0) j s) z = true
    · simp only [z136_0, z136_1, z136_3, z136_5, z136_8, z136_9, z136_10, z136_11, z136_14, z136_15, z136_18, z136_21, z136_22, z136_23, z136_26, z136_29, z136_31, Option.bind_some, Option.toList_some, Option.toList_none, List.cons_append, List.nil_append, sc_i, sc_r, sc_l, sc_u, sc_s, List.length_nil, List.length_cons, Nat.reduceAdd, Nat.reduceLeDiff, Nat.zero_le, le4_0, le4_1, le4_2, le4_3, rz0, rz1, rzt, eq_self, fo_f, fo_a, fo_j, co_f, co_a, co_j, ao_f, ao_a, ao_j, zo_f, zo_a, zo_j, jo_f, jo_a, jo_j, al_f, al_a, al_j, fg_a, fg_j, ag_f, ag_j, jg_f, jg_a, fk_f, fk_a, fk_j, fi_a, fi_j, tI_0, tI_n0, if_true, if_false, ne_eq, not_true_eq_false, not_false_eq_true, and_self, Bool.false_eq_true, nI_nge8 hs8, oc64 h0, of64_0 h0, og64_0 h0, ok64_0 h0, of64_1 h0, og64_1 h0, of64_2 h0, og64_2 h0, of64_3 h0, og64_3 h0, of64_4 h0, og64_4 h0, of64_5 h0, og64_5 h0, ok64_5 h0, of64_6 h0, og64_6 h0, ok64_6 h0, of64_7 h0, og64_7 h0, of64_8 h0, og64_8 h0, of64_9 h0, og64_9 h0, of64_10 h0, og64_10 h0, of64_11 h0, og64_11 h0, of64_12 h0, og64_12 h0, of64_13 h0, og64_13 h0, ok64_13 h0, of64_14 h0, og64_14 h0, of64_15 h0, og64_15 h0, ok64_15 h0, of64_16 h0, og64_16 h0, of64_17 h0, og64_17 h0, of64_18 h0, og64_18 h0, of64_19 h0, og64_19 h0, of64_20 h0, og64_20 h0, of64_21 h0, og64_21 h0, ok64_21 h0, of64_22 h0, og64_22 h0, of64_23 h0, og64_23 h0, ok64_23 h0, of64_24 h0, og64_24 h0, ok64_24 h0, of64_25 h0, og64_25 h0, ok64_25 h0, of64_26 h0, og64_26 h0, ok64_26 h0, of64_27 h0, og64_27 h0, ok64_27 h0, of64_28 h0, og64_28 h0, of64_29 h0, og64_29 h0, of64_30 h0, og64_30 h0, of64_31 h0, og64_31 h0, of64_32 h0, og64_32 h0, of64_33 h0, og64_33 h0, of64_34 h0, og64_34 h0, of64_35 h0, og64_35 h0, ok64_35 h0, of64_36 h0, og64_36 h0, ok64_36 h0, x_re h0 hj (show s < 1000 by omega) hl hb, x_mHasN, e]
    · simp only [z136_0, z136_1, z136_3, z136_5, z136_8, z136_9, z136_10, z136_11, z136_14, z136_15, z136_18, z136_21, z136_22, z136_23, z136_26, z136_29, z136_31, Option.bind_some, Option.toList_some, Option.toList_none, List.cons_append, List.nil_append, sc_i, sc_r, sc_l, sc_u, sc_s, List.length_nil, List.length_cons, Nat.reduceAdd, Nat.reduceLeDiff, Nat.zero_le, le4_0, le4_1, le4_2, le4_3, rz0, rz1, rzt, eq_self, fo_f, fo_a, fo_j, co_f, co_a, co_j, ao_f, ao_a, ao_j, zo_f, zo_a, zo_j, jo_f, jo_a, jo_j, al_f, al_a, al_j, fg_a, fg_j, ag_f, ag_j, jg_f, jg_a, fk_f, fk_a, fk_j, fi_a, fi_j, tI_0, tI_n0, if_true, if_false, ne_eq, not_true_eq_false, not_false_eq_true, and_self, Bool.false_eq_true, nI_nge8 hs8, oc64 h0, of64_0 h0, og64_0 h0, ok64_0 h0, of64_1 h0, og64_1 h0, of64_2 h0, og64_2 h0, of64_3 h0, og64_3 h0, of64_4 h0, og64_4 h0, of64_5 h0, og64_5 h0, ok64_5 h0, of64_6 h0, og64_6 h0, ok64_6 h0, of64_7 h0, og64_7 h0, of64_8 h0, og64_8 h0, of64_9 h0, og64_9 h0, of64_10 h0, og64_10 h0, of64_11 h0, og64_11 h0, of64_12 h0, og64_12 h0, of64_13 h0, og64_13 h0, ok64_13 h0, of64_14 h0, og64_14 h0, of64_15 h0, og64_15 h0, ok64_15 h0, of64_16 h0, og64_16 h0, of64_17 h0, og64_17 h0, of64_18 h0, og64_18 h0, of64_19 h0, og64_19 h0, of64_20 h0, og64_20 h0, of64_21 h0, og64_21 h0, ok64_21 h0, of64_22 h0, og64_22 h0, of64_23 h0, og64_23 h0, ok64_23 h0, of64_24 h0, og64_24 h0, ok64_24 h0, of64_25 h0, og64_25 h0, ok64_25 h0, of64_26 h0, og64_26 h0, ok64_26 h0, of64_27 h0, og64_27 h0, ok64_27 h0, of64_28 h0, og64_28 h0, of64_29 h0, og64_29 h0, of64_30 h0, og64_30 h0, of64_31 h0, og64_31 h0, of64_32 h0, og64_32 h0, of64_33 h0, og64_33 h0, of64_34 h0, og64_34 h0, of64_35 h0, og64_35 h0, ok64_35 h0, of64_36 h0, og64_36 h0, ok64_36 h0, x_re h0 hj (show s < 1000 by omega) hl hb, x_mHasN, e, nI_1, ih (s + 1) (by omega)]
theorem x_far {X : Scr} {w : AW} {j z : Nat} (h0 : OK w) (hj : j < 8) (hl : rng (fI w 64 0) 255) (hb : bq (fI w 64 0) j = true) : Z X 136 0 [.ref 64, .int (nI j), .int (nI z), uns] [] w = some (some (.int (fw (aget w 68) (fI w 64 0) j z 8 0)), w) := by
  have h1 := x_farL (X := X) (z := z) h0 hj hl hb 8 0 rfl
  have z0 : nI 0 = 0 := rfl
  rw [z0] at h1
  simp only [z136_0, z136_1, z136_3, z136_5, z136_8, z136_9, z136_10, z136_11, z136_14, z136_15, z136_18, z136_21, z136_22, z136_23, z136_26, z136_29, z136_31, Option.bind_some, Option.toList_some, Option.toList_none, List.cons_append, List.nil_append, sc_i, sc_r, sc_l, sc_u, sc_s, List.length_nil, List.length_cons, Nat.reduceAdd, Nat.reduceLeDiff, Nat.zero_le, le4_0, le4_1, le4_2, le4_3, rz0, rz1, rzt, eq_self, h1]
