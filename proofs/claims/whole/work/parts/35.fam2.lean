/-! Family: what a write keeps; the acts -/
theorem fam_c {w : AW} {F : Nat} (h : famOK w F) : cok w F 1 = true := cok_of h.1
theorem fam_o {w : AW} {F k : Nat} (h : famOK w F) (hk : k < 7) : fok w F 1 k = true := fok_of h.1 hk
theorem fam_k {w : AW} {F k : Nat} (h : famOK w F) (hk : k < 7) : fokk w F k = true := fokk_of h.1 hk
theorem fam_0 {w : AW} {F : Nat} (h : famOK w F) : fget w F 0 = .ref (F + 1) := h.2.1
theorem fam_1 {w : AW} {F : Nat} (h : famOK w F) : fget w F 1 = .ref (F + 2) := h.2.2.1
theorem fam_2 {w : AW} {F : Nat} (h : famOK w F) : fget w F 2 = .ref (F + 3) := h.2.2.2.1
theorem fam_3 {w : AW} {F : Nat} (h : famOK w F) : fget w F 3 = .ref (F + 4) := h.2.2.2.2.1
theorem fam_4 {w : AW} {F : Nat} (h : famOK w F) : fget w F 4 = .int (fI w F 4) := h.2.2.2.2.2.1
theorem fam_5 {w : AW} {F : Nat} (h : famOK w F) : fget w F 5 = .int (fI w F 5) := h.2.2.2.2.2.2.1
theorem fam_6 {w : AW} {F : Nat} (h : famOK w F) : fget w F 6 = .int (fI w F 6) := h.2.2.2.2.2.2.2.1
theorem fam_a1 {w : AW} {F : Nat} (h : famOK w F) : aok w (F + 1) = true := h.2.2.2.2.2.2.2.2.1
theorem fam_a2 {w : AW} {F : Nat} (h : famOK w F) : aok w (F + 2) = true := h.2.2.2.2.2.2.2.2.2.1
theorem fam_a3 {w : AW} {F : Nat} (h : famOK w F) : aok w (F + 3) = true := h.2.2.2.2.2.2.2.2.2.2.1
theorem fam_a4 {w : AW} {F : Nat} (h : famOK w F) : aok w (F + 4) = true := h.2.2.2.2.2.2.2.2.2.2.2.1
theorem fam_l1 {w : AW} {F : Nat} (h : famOK w F) : alen w (F + 1) = 8 := h.2.2.2.2.2.2.2.2.2.2.2.2.1
theorem fam_l2 {w : AW} {F : Nat} (h : famOK w F) : alen w (F + 2) = 8 := h.2.2.2.2.2.2.2.2.2.2.2.2.2.1
theorem fam_l3 {w : AW} {F : Nat} (h : famOK w F) : alen w (F + 3) = 8 := h.2.2.2.2.2.2.2.2.2.2.2.2.2.2.1
theorem fam_l4 {w : AW} {F : Nat} (h : famOK w F) : alen w (F + 4) = 8 := h.2.2.2.2.2.2.2.2.2.2.2.2.2.2.2
theorem fam_as {w : AW} {F a : Nat} {g : Nat → Int32} (h : famOK w F) : famOK (aset w a g) F := by
  unfold famOK
  simp only [ob_a, fg_a, fi_a, ao_a, al_a]
  exact h
theorem fam_js {w : AW} {F a : Nat} {g : Nat → Int64} (h : famOK w F) : famOK (jset w a g) F := by
  unfold famOK
  simp only [ob_j, fg_j, fi_j, ao_j, al_j]
  exact h
theorem fam_fo {w : AW} {F f k : Nat} {v : Value} (h : famOK w F) (hf : ¬ f = F) : famOK (fset w f k v) F := by
  have hn : ∀ k', fget (fset w f k v) F k' = fget w F k' := fun k' => fg_n (fun q => hf q.1)
  have hi : ∀ k', fI (fset w f k v) F k' = fI w F k' := fun k' => fi_at (hn k')
  unfold famOK
  simp only [ob_f, ao_f, al_f, hn, hi]
  exact h
theorem fam_fs {w : AW} {F k : Nat} {x : Int32} (h : famOK w F) (h4 : 4 ≤ k) (h7 : k < 7) : famOK (fset w F k (.int x)) F := by
  have hs := fg_s (v := .int x) (fam_k h h7)
  have hn : ∀ k', ¬ k = k' → fget (fset w F k (.int x)) F k' = fget w F k' := fun k' q => fg_n (fun z => q z.2)
  have hall : ∀ k', fget w F k' = .int (fI w F k') → fget (fset w F k (.int x)) F k' = .int (fI (fset w F k (.int x)) F k') := fun k' hk' => by
    by_cases e : k = k'
    · subst e; rw [hs, fi_v hs]
    · rw [hn k' e, fi_at (hn k' e)]; exact hk'
  unfold famOK
  simp only [ob_f, ao_f, al_f]
  exact ⟨h.1, (hn 0 (by omega)).trans (fam_0 h), (hn 1 (by omega)).trans (fam_1 h), (hn 2 (by omega)).trans (fam_2 h), (hn 3 (by omega)).trans (fam_3 h), hall 4 (fam_4 h), hall 5 (fam_5 h), hall 6 (fam_6 h), fam_a1 h, fam_a2 h, fam_a3 h, fam_a4 h, fam_l1 h, fam_l2 h, fam_l3 h, fam_l4 h⟩
theorem x_livesN {X : Scr} {w : AW} {F j : Nat} (h : famOK w F) (hj : j < 8) : Z X 18 0 [.ref F, .int (nI j)] [] w = some (some (.int (tI (bq (fI w F 4) j))), w) := by
  rw [x_lives h]
  have e : (0 ≤ nI j ∧ nI j < 8 ∧ (fI w F 4 >>> (nI j &&& 31)) &&& 1 = 1) ↔ bq (fI w F 4) j := ⟨fun q => bit_iff.mpr q.2.2, fun q => ⟨(nI_30 hj).1, i32_nle.mp (nI_nge8 hj), bit_iff.mp q⟩⟩
  rw [tI_c e]
/-- why a loan can't be (0: it can) -/
def whyLend (lv ho : Int32) (ti : Nat → Int32) (j t : Nat) : Int32 := if bq lv j ∧ bq lv t then if ho = nI j then if bq (ti j) t then 0 else 3 else 2 else 1
theorem x_lend {X : Scr} {w : AW} {F j t : Nat} (h : famOK w F) (hj : j < 8) (ht : t < 8) : Z X 37 0 [.ref F, .int (nI j), .int (nI t)] [] w = some (some (.int (whyLend (fI w F 4) (fI w F 5) (aget w (F + 4)) j t)), if whyLend (fI w F 4) (fI w F 5) (aget w (F + 4)) j t = 0 then fset w F 5 (.int (nI t)) else w) := by
  simp only [z37_0, z37_1, z37_2, z37_5, z37_8, z37_9, z37_10, z37_13, z37_16, z37_17, z37_18, z37_19, z37_22, z37_23, z37_26, z37_27, z37_28, z37_29, z37_32, z37_33, z37_34, z37_35, z37_38, z37_41, z37_42, z37_43, z37_44, z37_45, z37_48, z37_49, Option.bind_some, Option.toList_some, Option.toList_none, List.cons_append, List.nil_append, sc_i, sc_r, sc_l, sc_u, sc_s, List.length_nil, List.length_cons, Nat.reduceAdd, Nat.reduceLeDiff, Nat.zero_le, le4_0, le4_1, le4_2, le4_3, rz0, rz1, rzt, eq_self, x_livesN h hj, x_livesN h ht, x_isOfN2 (show t < 10 by omega), fam_c h, fam_o h (show 5 < 7 by decide), fam_o h (show 3 < 7 by decide), fam_5 h, fam_3 h, fam_a4 h, fam_l4 h, inB_nI hj (show 8 < 2 ^ 31 by decide), nI_clamp (show j < 2 ^ 31 by omega), tI_0, tI_n0]
  unfold whyLend
  by_cases h1 : bq (fI w F 4) j
  · by_cases h2 : bq (fI w F 4) t
    · by_cases h3 : fI w F 5 = nI j
      · by_cases h4 : bq (aget w (F + 4) j) t
        · simp [h1, h2, h3, h4]
        · simp [h1, h2, h3, h4]
      · simp [h1, h2, h3]
    · simp [h1, h2]
  · simp [h1]
/-- a breath behind a letter -/
def bal (x : Int32) : Int32 := if x ≤ 10 then 0 else x - 10
theorem x_speak {X : Scr} {w : AW} {F j t : Nat} (h : famOK w F) (hj : j < 8) (ht : t < 10) : Z X 42 0 [.ref F, .int (nI j), .int (nI t)] [] w = some (some (.int (if bq (fI w F 4) j then 0 else 1)), if bq (fI w F 4) j ∧ fI w F 5 = nI j ∧ bq (aget w (F + 3) j) t then aset (fset w F 6 (.int (fI w F 6 + aget w (F + 2) j))) (F + 2) (upd (aget w (F + 2)) j (bal (aget w (F + 2) j))) else w) := by
  have hne : ∀ k, k < 6 → fget (fset w F 6 (.int (fI w F 6 + aget w (F + 2) j))) F k = fget w F k := fun k hk => fg_n (by omega)
  simp only [z42_0, z42_1, z42_2, z42_5, z42_8, z42_9, z42_10, z42_11, z42_14, z42_15, z42_18, z42_19, z42_22, z42_23, z42_24, z42_25, z42_28, z42_31, z42_32, z42_32r, z42_33, z42_36, z42_37, z42_40, z42_41, z42_42, z42_43, z42_46, z42_47, z42_50, z42_51, z42_52, z42_55, z42_56, z42_57, z42_60, z42_61, z42_62, Option.bind_some, Option.toList_some, Option.toList_none, List.cons_append, List.nil_append, sc_i, sc_r, sc_l, sc_u, sc_s, List.length_nil, List.length_cons, Nat.reduceAdd, Nat.reduceLeDiff, Nat.zero_le, le4_0, le4_1, le4_2, le4_3, rz0, rz1, rzt, eq_self, fo_f, fo_a, fo_j, co_f, co_a, co_j, ao_f, ao_a, ao_j, zo_f, zo_a, zo_j, jo_f, jo_a, jo_j, al_f, al_a, al_j, fg_a, fg_j, ag_f, ag_j, jg_f, jg_a, fk_f, fk_a, fk_j, fi_a, fi_j, x_livesN h hj, x_isOfN2 ht, x_bal, fam_c h, fam_o h (show 5 < 7 by decide), fam_o h (show 6 < 7 by decide), fam_o h (show 2 < 7 by decide), fam_o h (show 1 < 7 by decide), fam_5 h, fam_6 h, fam_2 h, fam_1 h, fam_a2 h, fam_l2 h, fam_a3 h, fam_l3 h, inB_nI hj (show 8 < 2 ^ 31 by decide), nI_clamp (show j < 2 ^ 31 by omega), tI_0, tI_n0, hne 1 (by decide)]
  by_cases h1 : bq (fI w F 4) j
  · by_cases h2 : fI w F 5 = nI j
    · by_cases h3 : bq (aget w (F + 3) j) t
      · simp [h1, h2, h3, bal]
      · simp [h1, h2, h3]
    · simp [h1, h2]
  · simp [h1]
def rst (x : Int32) : Int32 := if x + 20 < 99 then x + 20 else 99
theorem x_rest {X : Scr} {w : AW} {F j : Nat} (h : famOK w F) (hj : j < 8) : Z X 38 0 [.ref F, .int (nI j)] [] w = some (some (.int (if bq (fI w F 4) j then if aget w (F + 2) j < 99 then 0 else 4 else 1)), if bq (fI w F 4) j ∧ aget w (F + 2) j < 99 then aset w (F + 2) (upd (aget w (F + 2)) j (rst (aget w (F + 2) j))) else w) := by
  simp only [z38_0, z38_1, z38_2, z38_5, z38_8, z38_9, z38_10, z38_11, z38_14, z38_15, z38_16, z38_18, z38_21, z38_22, z38_23, z38_24, z38_27, z38_28, z38_30, z38_31, z38_34, z38_35, z38_36, z38_38, z38_39, z38_42, z38_43, z38_44, Option.bind_some, Option.toList_some, Option.toList_none, List.cons_append, List.nil_append, sc_i, sc_r, sc_l, sc_u, sc_s, List.length_nil, List.length_cons, Nat.reduceAdd, Nat.reduceLeDiff, Nat.zero_le, le4_0, le4_1, le4_2, le4_3, rz0, rz1, rzt, eq_self, fo_f, fo_a, fo_j, co_f, co_a, co_j, ao_f, ao_a, ao_j, zo_f, zo_a, zo_j, jo_f, jo_a, jo_j, al_f, al_a, al_j, fg_a, fg_j, ag_f, ag_j, jg_f, jg_a, fk_f, fk_a, fk_j, fi_a, fi_j, x_livesN h hj, fam_c h, fam_o h (show 1 < 7 by decide), fam_1 h, fam_a2 h, fam_l2 h, inB_nI hj (show 8 < 2 ^ 31 by decide), nI_clamp (show j < 2 ^ 31 by omega), tI_0, tI_n0]
  by_cases h1 : bq (fI w F 4) j
  · by_cases h2 : aget w (F + 2) j < 99
    · simp [h1, h2, rst]
    · simp [h1, h2]
  · simp [h1]
/-- who lives behind a death -/
def dieL (lv : Int32) (j : Nat) : Int32 := lv &&& (((1 : Int32) <<< (nI j &&& 31)) ^^^ (-1))
def heirOf (ag ti : Nat → Int32) (lv : Int32) (j : Nat) : Int32 := if oldC ag (lv &&& ti j) 8 (-6) (-1) = -6 then oldC ag lv 8 (-6) (-1) else oldC ag (lv &&& ti j) 8 (-6) (-1)
theorem x_die {X : Scr} {w : AW} {F j : Nat} (h : famOK w F) (hj : j < 8) : Z X 39 0 [.ref F, .int (nI j), uns] [] w = some (some (.int (if bq (fI w F 4) j then 0 else 1)), if bq (fI w F 4) j then if fI w F 5 = nI j then fset (fset w F 4 (.int (dieL (fI w F 4) j))) F 5 (.int (heirOf (aget w (F + 1)) (aget w (F + 4)) (dieL (fI w F 4) j) j)) else fset w F 4 (.int (dieL (fI w F 4) j)) else w) := by
  have h1 : famOK (fset w F 4 (.int (fI w F 4 &&& (((1 : Int32) <<< (nI j &&& 31)) ^^^ (-1))))) F := fam_fs h (by decide) (by decide)
  have hne : ∀ k, ¬ 4 = k → fget (fset w F 4 (.int (fI w F 4 &&& (((1 : Int32) <<< (nI j &&& 31)) ^^^ (-1))))) F k = fget w F k := fun k hk => fg_n (by omega)
  have hs : fget (fset w F 4 (.int (fI w F 4 &&& (((1 : Int32) <<< (nI j &&& 31)) ^^^ (-1))))) F 4 = .int (fI w F 4 &&& (((1 : Int32) <<< (nI j &&& 31)) ^^^ (-1))) := fg_s (fam_k h (by decide))
  simp only [z39_0, z39_1, z39_2, z39_5, z39_8, z39_9, z39_10, z39_11, z39_11r, z39_12, z39_15, z39_16, z39_17, z39_18, z39_19, z39_20, z39_21, z39_24, z39_25, z39_28, z39_29, z39_32, z39_33, z39_34, z39_37, z39_38, z39_41, z39_42, z39_43, z39_44, z39_47, z39_48, z39_49, z39_50, z39_52, z39_55, z39_56, z39_59, z39_60, z39_61, z39_64, z39_67, z39_70, z39_71, Option.bind_some, Option.toList_some, Option.toList_none, List.cons_append, List.nil_append, sc_i, sc_r, sc_l, sc_u, sc_s, List.length_nil, List.length_cons, Nat.reduceAdd, Nat.reduceLeDiff, Nat.zero_le, le4_0, le4_1, le4_2, le4_3, rz0, rz1, rzt, eq_self, fo_f, fo_a, fo_j, co_f, co_a, co_j, ao_f, ao_a, ao_j, zo_f, zo_a, zo_j, jo_f, jo_a, jo_j, al_f, al_a, al_j, fg_a, fg_j, ag_f, ag_j, jg_f, jg_a, fk_f, fk_a, fk_j, fi_a, fi_j, x_livesN h hj, x_old h1, hs, hne 5 (by decide), hne 3 (by decide), fam_c h, fam_o h (show 4 < 7 by decide), fam_o h (show 5 < 7 by decide), fam_o h (show 3 < 7 by decide), fam_4 h, fam_5 h, fam_3 h, fam_a4 h, fam_l4 h, inB_nI hj (show 8 < 2 ^ 31 by decide), nI_clamp (show j < 2 ^ 31 by omega), tI_0, tI_n0]
  by_cases h2 : bq (fI w F 4) j
  · by_cases h3 : fI w F 5 = nI j
    · by_cases h4 : oldC (aget w (F + 1)) (fI w F 4 &&& (((1 : Int32) <<< (nI j &&& 31)) ^^^ (-1)) &&& aget w (F + 4) j) 8 (-6) (-1) = -6
      · simp only [h2, h3, h4, ne_eq, not_true_eq_false, if_true, if_false, heirOf, dieL]
      · simp only [h2, h3, h4, ne_eq, not_true_eq_false, if_true, if_false, heirOf, dieL]
    · simp only [h2, h3, ne_eq, not_true_eq_false, not_false_eq_true, if_true, if_false, dieL]
  · simp [h2]
theorem x_fall {X : Scr} {w : AW} {F : Nat} (h : famOK w F) : Z X 34 0 [.ref F, uns] [] w = some (some (.int (if oldC (aget w (F + 1)) (fI w F 4) 8 (-6) (-1) = -6 ∨ oldC (aget w (F + 1)) (fI w F 4) 8 (-6) (-1) = fI w F 5 then 5 else 0)), if oldC (aget w (F + 1)) (fI w F 4) 8 (-6) (-1) = -6 ∨ oldC (aget w (F + 1)) (fI w F 4) 8 (-6) (-1) = fI w F 5 then w else fset w F 5 (.int (oldC (aget w (F + 1)) (fI w F 4) 8 (-6) (-1)))) := by
  simp only [z34_0, z34_1, z34_2, z34_5, z34_8, z34_9, z34_10, z34_12, z34_15, z34_16, z34_17, z34_20, z34_23, z34_24, z34_25, z34_26, z34_27, z34_30, z34_31, Option.bind_some, Option.toList_some, Option.toList_none, List.cons_append, List.nil_append, sc_i, sc_r, sc_l, sc_u, sc_s, List.length_nil, List.length_cons, Nat.reduceAdd, Nat.reduceLeDiff, Nat.zero_le, le4_0, le4_1, le4_2, le4_3, rz0, rz1, rzt, eq_self, fo_f, fo_a, fo_j, co_f, co_a, co_j, ao_f, ao_a, ao_j, zo_f, zo_a, zo_j, jo_f, jo_a, jo_j, al_f, al_a, al_j, fg_a, fg_j, ag_f, ag_j, jg_f, jg_a, fk_f, fk_a, fk_j, fi_a, fi_j, x_old h, fam_c h, fam_o h (show 4 < 7 by decide), fam_o h (show 5 < 7 by decide), fam_4 h, fam_5 h]
  by_cases h1 : oldC (aget w (F + 1)) (fI w F 4) 8 (-6) (-1) = -6
  · simp [h1]
  · by_cases h2 : oldC (aget w (F + 1)) (fI w F 4) 8 (-6) (-1) = fI w F 5
    · simp [h2]
    · simp [h1, h2]
