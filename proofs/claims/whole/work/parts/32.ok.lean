/-! The structure of the world behind the two constructors, printed by wip/whole/gen3.py: what no call changes -/
def shT : List (FieldType × Nat × Nat × Nat) := [(.int, 8, 3, 11), (.int, 1, 3, 7), (.int, 8, 0, 0), (.int, 8, 0, 0), (.int, 8, 0, 0), (.int, 8, 0, 0), (.int, 1, 3, 7), (.int, 8, 0, 0), (.int, 8, 0, 0), (.int, 8, 0, 0), (.int, 8, 0, 0), (.int, 3, 3, 2), (.int, 60, 0, 0), (.int, 0, 3, 6), (.int, 1, 3, 7), (.int, 8, 0, 0), (.int, 8, 0, 0), (.int, 8, 0, 0), (.int, 8, 0, 0), (.int, 7, 3, 5), (.int, 6, 0, 0), (.int, 6, 0, 0), (.int, 6, 0, 0), (.int, 6, 3, 4), (.int, 8, 0, 0), (.int, 8, 0, 0), (.boolean, 8, 0, 0), (.int, 4, 3, 5), (.int, 336, 0, 0), (.int, 8, 0, 0), (.int, 5, 3, 4), (.int, 31, 0, 0), (.int, 31, 0, 0), (.int, 10, 0, 0), (.int, 10, 0, 0), (.int, 100, 0, 0), (.int, 2, 3, 4), (.int, 1, 3, 7), (.int, 8, 0, 0), (.int, 8, 0, 0), (.int, 8, 0, 0), (.int, 8, 0, 0), (.int, 7, 3, 5), (.int, 6, 0, 0), (.int, 6, 0, 0), (.int, 6, 0, 0), (.int, 6, 3, 4), (.int, 8, 0, 0), (.int, 8, 0, 0), (.boolean, 8, 0, 0), (.int, 2, 3, 4), (.int, 1, 3, 7), (.int, 8, 0, 0), (.int, 8, 0, 0), (.int, 8, 0, 0), (.int, 8, 0, 0), (.int, 7, 3, 5), (.int, 6, 0, 0), (.int, 6, 0, 0), (.int, 6, 0, 0), (.int, 6, 3, 4), (.int, 8, 0, 0), (.int, 8, 0, 0), (.boolean, 8, 0, 0), (.int, 9, 3, 37), (.int, 8, 0, 0), (.int, 8, 0, 0), (.int, 8, 0, 0), (.int, 8, 0, 0), (.int, 6, 0, 0), (.int, 6, 0, 0), (.int, 6, 0, 0), (.int, 8, 0, 0), (.int, 8, 0, 0), (.int, 8, 0, 0), (.int, 60, 0, 0), (.int, 60, 0, 0), (.int, 60, 0, 0), (.int, 60, 0, 0), (.int, 60, 0, 0), (.int, 60, 0, 0), (.int, 11, 0, 0), (.long, 64, 1, 0), (.long, 64, 1, 0), (.boolean, 1000, 0, 0), (.int, 8, 0, 0), (.int, 100, 0, 0), (.int, 180, 0, 0), (.boolean, 2, 0, 0)]
def refT : List (Nat × Nat × Nat) := [(0, 0, 1), (0, 1, 6), (0, 2, 11), (0, 3, 13), (0, 4, 19), (0, 5, 23), (0, 6, 27), (0, 7, 30), (0, 8, 35), (0, 9, 36), (0, 10, 50), (1, 0, 2), (1, 1, 3), (1, 2, 4), (1, 3, 5), (6, 0, 7), (6, 1, 8), (6, 2, 9), (6, 3, 10), (11, 0, 12), (13, 0, 14), (14, 0, 15), (14, 1, 16), (14, 2, 17), (14, 3, 18), (19, 0, 20), (19, 1, 21), (19, 2, 22), (23, 0, 24), (23, 1, 25), (23, 2, 26), (27, 0, 28), (27, 1, 29), (30, 0, 31), (30, 1, 32), (30, 2, 33), (30, 3, 34), (36, 0, 37), (36, 1, 42), (36, 2, 46), (37, 0, 38), (37, 1, 39), (37, 2, 40), (37, 3, 41), (42, 0, 43), (42, 1, 44), (42, 2, 45), (46, 0, 47), (46, 1, 48), (46, 2, 49), (50, 0, 51), (50, 1, 56), (50, 2, 60), (51, 0, 52), (51, 1, 53), (51, 2, 54), (51, 3, 55), (56, 0, 57), (56, 1, 58), (56, 2, 59), (60, 0, 61), (60, 1, 62), (60, 2, 63), (64, 1, 65), (64, 2, 66), (64, 3, 67), (64, 4, 68), (64, 7, 69), (64, 8, 70), (64, 9, 71), (64, 10, 72), (64, 11, 73), (64, 12, 74), (64, 14, 75), (64, 16, 76), (64, 17, 77), (64, 18, 78), (64, 19, 79), (64, 20, 80), (64, 22, 81), (64, 28, 82), (64, 29, 83), (64, 30, 84), (64, 31, 85), (64, 32, 86), (64, 33, 87), (64, 34, 88)]
def intT : List (Nat × Nat) := [(1, 4), (1, 5), (1, 6), (6, 4), (6, 5), (6, 6), (11, 1), (13, 1), (13, 2), (13, 3), (13, 4), (13, 5), (14, 4), (14, 5), (14, 6), (19, 3), (19, 4), (23, 3), (27, 2), (27, 3), (27, 4), (36, 3), (37, 4), (37, 5), (37, 6), (42, 3), (42, 4), (46, 3), (50, 3), (51, 4), (51, 5), (51, 6), (56, 3), (56, 4), (60, 3), (64, 0), (64, 5), (64, 6), (64, 13), (64, 15), (64, 21), (64, 23), (64, 24), (64, 25), (64, 26), (64, 27), (64, 35), (64, 36)]
def OK (w : AW) : Prop := w.length = 89 ∧ tot w = 2870 ∧ (∀ k : Nat, k < 89 → shw w k = shT[k]?) ∧ (∀ q ∈ refT, fget w q.1 q.2.1 = .ref q.2.2) ∧ ∀ q ∈ intT, fget w q.1 q.2 = .int (fI w q.1 q.2)
theorem sh_ty {w : AW} {a k n : Nat} {t : FieldType} {l : Nat} (h : shw w a = some (t, n, k, l)) (hk : k ≠ 3) : alen w a = n := by rw [alen_eq, h]; simp [hk]
theorem sh_obj {w : AW} {a n : Nat} {l : Nat} (h : shw w a = some (.int, n, 3, l)) (hl : l = (kD n).2.2.length) : obj w a n = true := by
  unfold shw at h
  unfold obj
  cases h1 : w[a]? with
  | none => rw [h1] at h; simp at h
  | some x =>
    rw [h1] at h
    simp only [Option.map_some, Option.some.injEq] at h
    obtain ⟨t', n', q | q | q⟩ | ⟨c, l'⟩ := x <;> simp [shp] at h
    obtain ⟨h2, h3⟩ := h
    subst h2
    subst hl
    simp [h3]
theorem tot_sh : ∀ (w w' : AW), w'.length = w.length → (∀ k : Nat, (w'[k]?).map csz = (w[k]?).map csz) → tot w' = tot w := by
  intro w w' hl h
  unfold tot
  congr 1
  apply List.ext_getElem?
  intro i
  rw [List.getElem?_map, List.getElem?_map]
  exact h i
theorem tot_f {w : AW} {f k : Nat} {v : Value} : tot (fset w f k v) = tot w := by
  rcases fset_or (w := w) (f := f) (k := k) (v := v) with e | ⟨o, he, e⟩
  · rw [e]
  · rw [e, tot_set he]; simp [csz]
theorem tot_a {w : AW} {a : Nat} {g : Nat → Int32} : tot (aset w a g) = tot w := by
  rcases aset_or (w := w) (a := a) (g := g) with e | ⟨t, n, g0, he, e⟩
  · rw [e]
  · rw [e, tot_set he]; rfl
theorem tot_j {w : AW} {a : Nat} {g : Nat → Int64} : tot (jset w a g) = tot w := by
  rcases jset_or (w := w) (a := a) (g := g) with e | ⟨t, n, g0, he, e⟩
  · rw [e]
  · rw [e, tot_set he]; rfl
theorem len_f {w : AW} {f k : Nat} {v : Value} : (fset w f k v).length = w.length := by
  rcases fset_or (w := w) (f := f) (k := k) (v := v) with e | ⟨o, he, e⟩ <;> rw [e]
  rw [List.length_set]
theorem len_a {w : AW} {a : Nat} {g : Nat → Int32} : (aset w a g).length = w.length := by
  rcases aset_or (w := w) (a := a) (g := g) with e | ⟨t, n, g0, he, e⟩ <;> rw [e]
  rw [List.length_set]
theorem len_j {w : AW} {a : Nat} {g : Nat → Int64} : (jset w a g).length = w.length := by
  rcases jset_or (w := w) (a := a) (g := g) with e | ⟨t, n, g0, he, e⟩ <;> rw [e]
  rw [List.length_set]
theorem ok_a {w : AW} {a : Nat} {g : Nat → Int32} (h : OK w) : OK (aset w a g) :=
  ⟨len_a.trans h.1, tot_a.trans h.2.1, fun k hk => shw_a.trans (h.2.2.1 k hk), fun q hq => fg_a.trans (h.2.2.2.1 q hq), fun q hq => by rw [fg_a, fi_a]; exact h.2.2.2.2 q hq⟩
theorem ok_j {w : AW} {a : Nat} {g : Nat → Int64} (h : OK w) : OK (jset w a g) :=
  ⟨len_j.trans h.1, tot_j.trans h.2.1, fun k hk => shw_j.trans (h.2.2.1 k hk), fun q hq => fg_j.trans (h.2.2.2.1 q hq), fun q hq => by rw [fg_j, fi_j]; exact h.2.2.2.2 q hq⟩
theorem int_ref : ∀ q ∈ intT, ∀ r ∈ refT, ¬ (q.1 = r.1 ∧ q.2 = r.2.1) := by decide +kernel
theorem int_in : ∀ q ∈ intT, q.1 < 89 ∧ (match shT[q.1]? with | some (_, _, 3, l) => Nat.blt q.2 l | _ => false) = true := by decide +kernel
theorem fokk_int {w : AW} {f k : Nat} (h : OK w) (hq : (f, k) ∈ intT) : fokk w f k = true := by
  obtain ⟨h1, h2⟩ := int_in _ hq
  have h3 := h.2.2.1 f h1
  dsimp only at h2
  rw [← h3] at h2
  unfold shw at h2
  unfold fokk
  cases h4 : w[f]? with
  | none => rw [h4] at h2; simp at h2
  | some x =>
    rw [h4] at h2
    obtain ⟨t', n', q | q | q⟩ | ⟨c, l'⟩ := x <;> simp [shp] at h2
    simp [h2]
theorem ok_f {w : AW} {f k : Nat} {x : Int32} (h : OK w) (hq : (f, k) ∈ intT) : OK (fset w f k (.int x)) := by
  refine ⟨len_f.trans h.1, tot_f.trans h.2.1, fun k hk => shw_f.trans (h.2.2.1 k hk), fun r hr => ?_, fun r hr => ?_⟩
  · rw [fg_n (int_ref _ hq r hr)]
    exact h.2.2.2.1 r hr
  · by_cases e : f = r.1 ∧ k = r.2
    · rw [← e.1, ← e.2, fg_s (fokk_int h hq), fi_s (fokk_int h hq)]
    · rw [fg_n e, fi_n e]
      exact h.2.2.2.2 r hr
theorem oo0 {w : AW} (h : OK w) : obj w 0 8 = true := sh_obj (h.2.2.1 0 (by decide)) rfl
theorem oc0 {w : AW} (h : OK w) : cok w 0 8 = true := cok_of (oo0 h)
theorem of0_0 {w : AW} (h : OK w) : fok w 0 8 0 = true := fok_of (oo0 h) (by decide)
theorem og0_0 {w : AW} (h : OK w) : fget w 0 0 = .ref 1 := h.2.2.2.1 (0, 0, 1) (by decide)
theorem of0_1 {w : AW} (h : OK w) : fok w 0 8 1 = true := fok_of (oo0 h) (by decide)
theorem og0_1 {w : AW} (h : OK w) : fget w 0 1 = .ref 6 := h.2.2.2.1 (0, 1, 6) (by decide)
theorem of0_2 {w : AW} (h : OK w) : fok w 0 8 2 = true := fok_of (oo0 h) (by decide)
theorem og0_2 {w : AW} (h : OK w) : fget w 0 2 = .ref 11 := h.2.2.2.1 (0, 2, 11) (by decide)
theorem of0_3 {w : AW} (h : OK w) : fok w 0 8 3 = true := fok_of (oo0 h) (by decide)
theorem og0_3 {w : AW} (h : OK w) : fget w 0 3 = .ref 13 := h.2.2.2.1 (0, 3, 13) (by decide)
theorem of0_4 {w : AW} (h : OK w) : fok w 0 8 4 = true := fok_of (oo0 h) (by decide)
theorem og0_4 {w : AW} (h : OK w) : fget w 0 4 = .ref 19 := h.2.2.2.1 (0, 4, 19) (by decide)
theorem of0_5 {w : AW} (h : OK w) : fok w 0 8 5 = true := fok_of (oo0 h) (by decide)
theorem og0_5 {w : AW} (h : OK w) : fget w 0 5 = .ref 23 := h.2.2.2.1 (0, 5, 23) (by decide)
theorem of0_6 {w : AW} (h : OK w) : fok w 0 8 6 = true := fok_of (oo0 h) (by decide)
theorem og0_6 {w : AW} (h : OK w) : fget w 0 6 = .ref 27 := h.2.2.2.1 (0, 6, 27) (by decide)
theorem of0_7 {w : AW} (h : OK w) : fok w 0 8 7 = true := fok_of (oo0 h) (by decide)
theorem og0_7 {w : AW} (h : OK w) : fget w 0 7 = .ref 30 := h.2.2.2.1 (0, 7, 30) (by decide)
theorem of0_8 {w : AW} (h : OK w) : fok w 0 8 8 = true := fok_of (oo0 h) (by decide)
theorem og0_8 {w : AW} (h : OK w) : fget w 0 8 = .ref 35 := h.2.2.2.1 (0, 8, 35) (by decide)
theorem of0_9 {w : AW} (h : OK w) : fok w 0 8 9 = true := fok_of (oo0 h) (by decide)
theorem og0_9 {w : AW} (h : OK w) : fget w 0 9 = .ref 36 := h.2.2.2.1 (0, 9, 36) (by decide)
theorem of0_10 {w : AW} (h : OK w) : fok w 0 8 10 = true := fok_of (oo0 h) (by decide)
theorem og0_10 {w : AW} (h : OK w) : fget w 0 10 = .ref 50 := h.2.2.2.1 (0, 10, 50) (by decide)
theorem oo1 {w : AW} (h : OK w) : obj w 1 1 = true := sh_obj (h.2.2.1 1 (by decide)) rfl
theorem oc1 {w : AW} (h : OK w) : cok w 1 1 = true := cok_of (oo1 h)
theorem of1_0 {w : AW} (h : OK w) : fok w 1 1 0 = true := fok_of (oo1 h) (by decide)
theorem og1_0 {w : AW} (h : OK w) : fget w 1 0 = .ref 2 := h.2.2.2.1 (1, 0, 2) (by decide)
theorem of1_1 {w : AW} (h : OK w) : fok w 1 1 1 = true := fok_of (oo1 h) (by decide)
theorem og1_1 {w : AW} (h : OK w) : fget w 1 1 = .ref 3 := h.2.2.2.1 (1, 1, 3) (by decide)
theorem of1_2 {w : AW} (h : OK w) : fok w 1 1 2 = true := fok_of (oo1 h) (by decide)
theorem og1_2 {w : AW} (h : OK w) : fget w 1 2 = .ref 4 := h.2.2.2.1 (1, 2, 4) (by decide)
theorem of1_3 {w : AW} (h : OK w) : fok w 1 1 3 = true := fok_of (oo1 h) (by decide)
theorem og1_3 {w : AW} (h : OK w) : fget w 1 3 = .ref 5 := h.2.2.2.1 (1, 3, 5) (by decide)
theorem of1_4 {w : AW} (h : OK w) : fok w 1 1 4 = true := fok_of (oo1 h) (by decide)
theorem og1_4 {w : AW} (h : OK w) : fget w 1 4 = .int (fI w 1 4) := h.2.2.2.2 (1, 4) (by decide)
theorem ok1_4 {w : AW} (h : OK w) : fokk w 1 4 = true := fokk_of (oo1 h) (by decide)
theorem of1_5 {w : AW} (h : OK w) : fok w 1 1 5 = true := fok_of (oo1 h) (by decide)
theorem og1_5 {w : AW} (h : OK w) : fget w 1 5 = .int (fI w 1 5) := h.2.2.2.2 (1, 5) (by decide)
theorem ok1_5 {w : AW} (h : OK w) : fokk w 1 5 = true := fokk_of (oo1 h) (by decide)
theorem of1_6 {w : AW} (h : OK w) : fok w 1 1 6 = true := fok_of (oo1 h) (by decide)
theorem og1_6 {w : AW} (h : OK w) : fget w 1 6 = .int (fI w 1 6) := h.2.2.2.2 (1, 6) (by decide)
theorem ok1_6 {w : AW} (h : OK w) : fokk w 1 6 = true := fokk_of (oo1 h) (by decide)
theorem oa2 {w : AW} (h : OK w) : aok w 2 = true := by rw [aok_eq, h.2.2.1 2 (by decide)]; rfl
theorem ol2 {w : AW} (h : OK w) : alen w 2 = 8 := sh_ty (h.2.2.1 2 (by decide)) (by decide)
theorem oa3 {w : AW} (h : OK w) : aok w 3 = true := by rw [aok_eq, h.2.2.1 3 (by decide)]; rfl
theorem ol3 {w : AW} (h : OK w) : alen w 3 = 8 := sh_ty (h.2.2.1 3 (by decide)) (by decide)
theorem oa4 {w : AW} (h : OK w) : aok w 4 = true := by rw [aok_eq, h.2.2.1 4 (by decide)]; rfl
theorem ol4 {w : AW} (h : OK w) : alen w 4 = 8 := sh_ty (h.2.2.1 4 (by decide)) (by decide)
theorem oa5 {w : AW} (h : OK w) : aok w 5 = true := by rw [aok_eq, h.2.2.1 5 (by decide)]; rfl
theorem ol5 {w : AW} (h : OK w) : alen w 5 = 8 := sh_ty (h.2.2.1 5 (by decide)) (by decide)
theorem oo6 {w : AW} (h : OK w) : obj w 6 1 = true := sh_obj (h.2.2.1 6 (by decide)) rfl
theorem oc6 {w : AW} (h : OK w) : cok w 6 1 = true := cok_of (oo6 h)
theorem of6_0 {w : AW} (h : OK w) : fok w 6 1 0 = true := fok_of (oo6 h) (by decide)
theorem og6_0 {w : AW} (h : OK w) : fget w 6 0 = .ref 7 := h.2.2.2.1 (6, 0, 7) (by decide)
theorem of6_1 {w : AW} (h : OK w) : fok w 6 1 1 = true := fok_of (oo6 h) (by decide)
theorem og6_1 {w : AW} (h : OK w) : fget w 6 1 = .ref 8 := h.2.2.2.1 (6, 1, 8) (by decide)
theorem of6_2 {w : AW} (h : OK w) : fok w 6 1 2 = true := fok_of (oo6 h) (by decide)
theorem og6_2 {w : AW} (h : OK w) : fget w 6 2 = .ref 9 := h.2.2.2.1 (6, 2, 9) (by decide)
theorem of6_3 {w : AW} (h : OK w) : fok w 6 1 3 = true := fok_of (oo6 h) (by decide)
theorem og6_3 {w : AW} (h : OK w) : fget w 6 3 = .ref 10 := h.2.2.2.1 (6, 3, 10) (by decide)
theorem of6_4 {w : AW} (h : OK w) : fok w 6 1 4 = true := fok_of (oo6 h) (by decide)
theorem og6_4 {w : AW} (h : OK w) : fget w 6 4 = .int (fI w 6 4) := h.2.2.2.2 (6, 4) (by decide)
theorem ok6_4 {w : AW} (h : OK w) : fokk w 6 4 = true := fokk_of (oo6 h) (by decide)
theorem of6_5 {w : AW} (h : OK w) : fok w 6 1 5 = true := fok_of (oo6 h) (by decide)
theorem og6_5 {w : AW} (h : OK w) : fget w 6 5 = .int (fI w 6 5) := h.2.2.2.2 (6, 5) (by decide)
theorem ok6_5 {w : AW} (h : OK w) : fokk w 6 5 = true := fokk_of (oo6 h) (by decide)
theorem of6_6 {w : AW} (h : OK w) : fok w 6 1 6 = true := fok_of (oo6 h) (by decide)
theorem og6_6 {w : AW} (h : OK w) : fget w 6 6 = .int (fI w 6 6) := h.2.2.2.2 (6, 6) (by decide)
theorem ok6_6 {w : AW} (h : OK w) : fokk w 6 6 = true := fokk_of (oo6 h) (by decide)
theorem oa7 {w : AW} (h : OK w) : aok w 7 = true := by rw [aok_eq, h.2.2.1 7 (by decide)]; rfl
theorem ol7 {w : AW} (h : OK w) : alen w 7 = 8 := sh_ty (h.2.2.1 7 (by decide)) (by decide)
theorem oa8 {w : AW} (h : OK w) : aok w 8 = true := by rw [aok_eq, h.2.2.1 8 (by decide)]; rfl
theorem ol8 {w : AW} (h : OK w) : alen w 8 = 8 := sh_ty (h.2.2.1 8 (by decide)) (by decide)
theorem oa9 {w : AW} (h : OK w) : aok w 9 = true := by rw [aok_eq, h.2.2.1 9 (by decide)]; rfl
theorem ol9 {w : AW} (h : OK w) : alen w 9 = 8 := sh_ty (h.2.2.1 9 (by decide)) (by decide)
theorem oa10 {w : AW} (h : OK w) : aok w 10 = true := by rw [aok_eq, h.2.2.1 10 (by decide)]; rfl
theorem ol10 {w : AW} (h : OK w) : alen w 10 = 8 := sh_ty (h.2.2.1 10 (by decide)) (by decide)
theorem oo11 {w : AW} (h : OK w) : obj w 11 3 = true := sh_obj (h.2.2.1 11 (by decide)) rfl
theorem oc11 {w : AW} (h : OK w) : cok w 11 3 = true := cok_of (oo11 h)
theorem of11_0 {w : AW} (h : OK w) : fok w 11 3 0 = true := fok_of (oo11 h) (by decide)
theorem og11_0 {w : AW} (h : OK w) : fget w 11 0 = .ref 12 := h.2.2.2.1 (11, 0, 12) (by decide)
theorem of11_1 {w : AW} (h : OK w) : fok w 11 3 1 = true := fok_of (oo11 h) (by decide)
theorem og11_1 {w : AW} (h : OK w) : fget w 11 1 = .int (fI w 11 1) := h.2.2.2.2 (11, 1) (by decide)
theorem ok11_1 {w : AW} (h : OK w) : fokk w 11 1 = true := fokk_of (oo11 h) (by decide)
theorem oa12 {w : AW} (h : OK w) : aok w 12 = true := by rw [aok_eq, h.2.2.1 12 (by decide)]; rfl
theorem ol12 {w : AW} (h : OK w) : alen w 12 = 60 := sh_ty (h.2.2.1 12 (by decide)) (by decide)
theorem oo13 {w : AW} (h : OK w) : obj w 13 0 = true := sh_obj (h.2.2.1 13 (by decide)) rfl
theorem oc13 {w : AW} (h : OK w) : cok w 13 0 = true := cok_of (oo13 h)
theorem of13_0 {w : AW} (h : OK w) : fok w 13 0 0 = true := fok_of (oo13 h) (by decide)
theorem og13_0 {w : AW} (h : OK w) : fget w 13 0 = .ref 14 := h.2.2.2.1 (13, 0, 14) (by decide)
theorem of13_1 {w : AW} (h : OK w) : fok w 13 0 1 = true := fok_of (oo13 h) (by decide)
theorem og13_1 {w : AW} (h : OK w) : fget w 13 1 = .int (fI w 13 1) := h.2.2.2.2 (13, 1) (by decide)
theorem ok13_1 {w : AW} (h : OK w) : fokk w 13 1 = true := fokk_of (oo13 h) (by decide)
theorem of13_2 {w : AW} (h : OK w) : fok w 13 0 2 = true := fok_of (oo13 h) (by decide)
theorem og13_2 {w : AW} (h : OK w) : fget w 13 2 = .int (fI w 13 2) := h.2.2.2.2 (13, 2) (by decide)
theorem ok13_2 {w : AW} (h : OK w) : fokk w 13 2 = true := fokk_of (oo13 h) (by decide)
theorem of13_3 {w : AW} (h : OK w) : fok w 13 0 3 = true := fok_of (oo13 h) (by decide)
theorem og13_3 {w : AW} (h : OK w) : fget w 13 3 = .int (fI w 13 3) := h.2.2.2.2 (13, 3) (by decide)
theorem ok13_3 {w : AW} (h : OK w) : fokk w 13 3 = true := fokk_of (oo13 h) (by decide)
theorem of13_4 {w : AW} (h : OK w) : fok w 13 0 4 = true := fok_of (oo13 h) (by decide)
theorem og13_4 {w : AW} (h : OK w) : fget w 13 4 = .int (fI w 13 4) := h.2.2.2.2 (13, 4) (by decide)
theorem ok13_4 {w : AW} (h : OK w) : fokk w 13 4 = true := fokk_of (oo13 h) (by decide)
theorem of13_5 {w : AW} (h : OK w) : fok w 13 0 5 = true := fok_of (oo13 h) (by decide)
theorem og13_5 {w : AW} (h : OK w) : fget w 13 5 = .int (fI w 13 5) := h.2.2.2.2 (13, 5) (by decide)
theorem ok13_5 {w : AW} (h : OK w) : fokk w 13 5 = true := fokk_of (oo13 h) (by decide)
theorem oo14 {w : AW} (h : OK w) : obj w 14 1 = true := sh_obj (h.2.2.1 14 (by decide)) rfl
theorem oc14 {w : AW} (h : OK w) : cok w 14 1 = true := cok_of (oo14 h)
theorem of14_0 {w : AW} (h : OK w) : fok w 14 1 0 = true := fok_of (oo14 h) (by decide)
theorem og14_0 {w : AW} (h : OK w) : fget w 14 0 = .ref 15 := h.2.2.2.1 (14, 0, 15) (by decide)
theorem of14_1 {w : AW} (h : OK w) : fok w 14 1 1 = true := fok_of (oo14 h) (by decide)
theorem og14_1 {w : AW} (h : OK w) : fget w 14 1 = .ref 16 := h.2.2.2.1 (14, 1, 16) (by decide)
theorem of14_2 {w : AW} (h : OK w) : fok w 14 1 2 = true := fok_of (oo14 h) (by decide)
theorem og14_2 {w : AW} (h : OK w) : fget w 14 2 = .ref 17 := h.2.2.2.1 (14, 2, 17) (by decide)
theorem of14_3 {w : AW} (h : OK w) : fok w 14 1 3 = true := fok_of (oo14 h) (by decide)
theorem og14_3 {w : AW} (h : OK w) : fget w 14 3 = .ref 18 := h.2.2.2.1 (14, 3, 18) (by decide)
theorem of14_4 {w : AW} (h : OK w) : fok w 14 1 4 = true := fok_of (oo14 h) (by decide)
theorem og14_4 {w : AW} (h : OK w) : fget w 14 4 = .int (fI w 14 4) := h.2.2.2.2 (14, 4) (by decide)
theorem ok14_4 {w : AW} (h : OK w) : fokk w 14 4 = true := fokk_of (oo14 h) (by decide)
theorem of14_5 {w : AW} (h : OK w) : fok w 14 1 5 = true := fok_of (oo14 h) (by decide)
theorem og14_5 {w : AW} (h : OK w) : fget w 14 5 = .int (fI w 14 5) := h.2.2.2.2 (14, 5) (by decide)
theorem ok14_5 {w : AW} (h : OK w) : fokk w 14 5 = true := fokk_of (oo14 h) (by decide)
theorem of14_6 {w : AW} (h : OK w) : fok w 14 1 6 = true := fok_of (oo14 h) (by decide)
theorem og14_6 {w : AW} (h : OK w) : fget w 14 6 = .int (fI w 14 6) := h.2.2.2.2 (14, 6) (by decide)
theorem ok14_6 {w : AW} (h : OK w) : fokk w 14 6 = true := fokk_of (oo14 h) (by decide)
theorem oa15 {w : AW} (h : OK w) : aok w 15 = true := by rw [aok_eq, h.2.2.1 15 (by decide)]; rfl
theorem ol15 {w : AW} (h : OK w) : alen w 15 = 8 := sh_ty (h.2.2.1 15 (by decide)) (by decide)
theorem oa16 {w : AW} (h : OK w) : aok w 16 = true := by rw [aok_eq, h.2.2.1 16 (by decide)]; rfl
theorem ol16 {w : AW} (h : OK w) : alen w 16 = 8 := sh_ty (h.2.2.1 16 (by decide)) (by decide)
theorem oa17 {w : AW} (h : OK w) : aok w 17 = true := by rw [aok_eq, h.2.2.1 17 (by decide)]; rfl
theorem ol17 {w : AW} (h : OK w) : alen w 17 = 8 := sh_ty (h.2.2.1 17 (by decide)) (by decide)
theorem oa18 {w : AW} (h : OK w) : aok w 18 = true := by rw [aok_eq, h.2.2.1 18 (by decide)]; rfl
theorem ol18 {w : AW} (h : OK w) : alen w 18 = 8 := sh_ty (h.2.2.1 18 (by decide)) (by decide)
theorem oo19 {w : AW} (h : OK w) : obj w 19 7 = true := sh_obj (h.2.2.1 19 (by decide)) rfl
theorem oc19 {w : AW} (h : OK w) : cok w 19 7 = true := cok_of (oo19 h)
theorem of19_0 {w : AW} (h : OK w) : fok w 19 7 0 = true := fok_of (oo19 h) (by decide)
theorem og19_0 {w : AW} (h : OK w) : fget w 19 0 = .ref 20 := h.2.2.2.1 (19, 0, 20) (by decide)
theorem of19_1 {w : AW} (h : OK w) : fok w 19 7 1 = true := fok_of (oo19 h) (by decide)
theorem og19_1 {w : AW} (h : OK w) : fget w 19 1 = .ref 21 := h.2.2.2.1 (19, 1, 21) (by decide)
theorem of19_2 {w : AW} (h : OK w) : fok w 19 7 2 = true := fok_of (oo19 h) (by decide)
theorem og19_2 {w : AW} (h : OK w) : fget w 19 2 = .ref 22 := h.2.2.2.1 (19, 2, 22) (by decide)
theorem of19_3 {w : AW} (h : OK w) : fok w 19 7 3 = true := fok_of (oo19 h) (by decide)
theorem og19_3 {w : AW} (h : OK w) : fget w 19 3 = .int (fI w 19 3) := h.2.2.2.2 (19, 3) (by decide)
theorem ok19_3 {w : AW} (h : OK w) : fokk w 19 3 = true := fokk_of (oo19 h) (by decide)
theorem of19_4 {w : AW} (h : OK w) : fok w 19 7 4 = true := fok_of (oo19 h) (by decide)
theorem og19_4 {w : AW} (h : OK w) : fget w 19 4 = .int (fI w 19 4) := h.2.2.2.2 (19, 4) (by decide)
theorem ok19_4 {w : AW} (h : OK w) : fokk w 19 4 = true := fokk_of (oo19 h) (by decide)
theorem oa20 {w : AW} (h : OK w) : aok w 20 = true := by rw [aok_eq, h.2.2.1 20 (by decide)]; rfl
theorem ol20 {w : AW} (h : OK w) : alen w 20 = 6 := sh_ty (h.2.2.1 20 (by decide)) (by decide)
theorem oa21 {w : AW} (h : OK w) : aok w 21 = true := by rw [aok_eq, h.2.2.1 21 (by decide)]; rfl
theorem ol21 {w : AW} (h : OK w) : alen w 21 = 6 := sh_ty (h.2.2.1 21 (by decide)) (by decide)
theorem oa22 {w : AW} (h : OK w) : aok w 22 = true := by rw [aok_eq, h.2.2.1 22 (by decide)]; rfl
theorem ol22 {w : AW} (h : OK w) : alen w 22 = 6 := sh_ty (h.2.2.1 22 (by decide)) (by decide)
theorem oo23 {w : AW} (h : OK w) : obj w 23 6 = true := sh_obj (h.2.2.1 23 (by decide)) rfl
theorem oc23 {w : AW} (h : OK w) : cok w 23 6 = true := cok_of (oo23 h)
theorem of23_0 {w : AW} (h : OK w) : fok w 23 6 0 = true := fok_of (oo23 h) (by decide)
theorem og23_0 {w : AW} (h : OK w) : fget w 23 0 = .ref 24 := h.2.2.2.1 (23, 0, 24) (by decide)
theorem of23_1 {w : AW} (h : OK w) : fok w 23 6 1 = true := fok_of (oo23 h) (by decide)
theorem og23_1 {w : AW} (h : OK w) : fget w 23 1 = .ref 25 := h.2.2.2.1 (23, 1, 25) (by decide)
theorem of23_2 {w : AW} (h : OK w) : fok w 23 6 2 = true := fok_of (oo23 h) (by decide)
theorem og23_2 {w : AW} (h : OK w) : fget w 23 2 = .ref 26 := h.2.2.2.1 (23, 2, 26) (by decide)
theorem of23_3 {w : AW} (h : OK w) : fok w 23 6 3 = true := fok_of (oo23 h) (by decide)
theorem og23_3 {w : AW} (h : OK w) : fget w 23 3 = .int (fI w 23 3) := h.2.2.2.2 (23, 3) (by decide)
theorem ok23_3 {w : AW} (h : OK w) : fokk w 23 3 = true := fokk_of (oo23 h) (by decide)
theorem oa24 {w : AW} (h : OK w) : aok w 24 = true := by rw [aok_eq, h.2.2.1 24 (by decide)]; rfl
theorem ol24 {w : AW} (h : OK w) : alen w 24 = 8 := sh_ty (h.2.2.1 24 (by decide)) (by decide)
theorem oa25 {w : AW} (h : OK w) : aok w 25 = true := by rw [aok_eq, h.2.2.1 25 (by decide)]; rfl
theorem ol25 {w : AW} (h : OK w) : alen w 25 = 8 := sh_ty (h.2.2.1 25 (by decide)) (by decide)
theorem oa26 {w : AW} (h : OK w) : zok w 26 = true := by rw [zok_eq, h.2.2.1 26 (by decide)]; rfl
theorem ol26 {w : AW} (h : OK w) : alen w 26 = 8 := sh_ty (h.2.2.1 26 (by decide)) (by decide)
theorem oo27 {w : AW} (h : OK w) : obj w 27 4 = true := sh_obj (h.2.2.1 27 (by decide)) rfl
theorem oc27 {w : AW} (h : OK w) : cok w 27 4 = true := cok_of (oo27 h)
theorem of27_0 {w : AW} (h : OK w) : fok w 27 4 0 = true := fok_of (oo27 h) (by decide)
theorem og27_0 {w : AW} (h : OK w) : fget w 27 0 = .ref 28 := h.2.2.2.1 (27, 0, 28) (by decide)
theorem of27_1 {w : AW} (h : OK w) : fok w 27 4 1 = true := fok_of (oo27 h) (by decide)
theorem og27_1 {w : AW} (h : OK w) : fget w 27 1 = .ref 29 := h.2.2.2.1 (27, 1, 29) (by decide)
theorem of27_2 {w : AW} (h : OK w) : fok w 27 4 2 = true := fok_of (oo27 h) (by decide)
theorem og27_2 {w : AW} (h : OK w) : fget w 27 2 = .int (fI w 27 2) := h.2.2.2.2 (27, 2) (by decide)
theorem ok27_2 {w : AW} (h : OK w) : fokk w 27 2 = true := fokk_of (oo27 h) (by decide)
theorem of27_3 {w : AW} (h : OK w) : fok w 27 4 3 = true := fok_of (oo27 h) (by decide)
theorem og27_3 {w : AW} (h : OK w) : fget w 27 3 = .int (fI w 27 3) := h.2.2.2.2 (27, 3) (by decide)
theorem ok27_3 {w : AW} (h : OK w) : fokk w 27 3 = true := fokk_of (oo27 h) (by decide)
theorem of27_4 {w : AW} (h : OK w) : fok w 27 4 4 = true := fok_of (oo27 h) (by decide)
theorem og27_4 {w : AW} (h : OK w) : fget w 27 4 = .int (fI w 27 4) := h.2.2.2.2 (27, 4) (by decide)
theorem ok27_4 {w : AW} (h : OK w) : fokk w 27 4 = true := fokk_of (oo27 h) (by decide)
theorem oa28 {w : AW} (h : OK w) : aok w 28 = true := by rw [aok_eq, h.2.2.1 28 (by decide)]; rfl
theorem ol28 {w : AW} (h : OK w) : alen w 28 = 336 := sh_ty (h.2.2.1 28 (by decide)) (by decide)
theorem oa29 {w : AW} (h : OK w) : aok w 29 = true := by rw [aok_eq, h.2.2.1 29 (by decide)]; rfl
theorem ol29 {w : AW} (h : OK w) : alen w 29 = 8 := sh_ty (h.2.2.1 29 (by decide)) (by decide)
theorem oo30 {w : AW} (h : OK w) : obj w 30 5 = true := sh_obj (h.2.2.1 30 (by decide)) rfl
theorem oc30 {w : AW} (h : OK w) : cok w 30 5 = true := cok_of (oo30 h)
theorem of30_0 {w : AW} (h : OK w) : fok w 30 5 0 = true := fok_of (oo30 h) (by decide)
theorem og30_0 {w : AW} (h : OK w) : fget w 30 0 = .ref 31 := h.2.2.2.1 (30, 0, 31) (by decide)
theorem of30_1 {w : AW} (h : OK w) : fok w 30 5 1 = true := fok_of (oo30 h) (by decide)
theorem og30_1 {w : AW} (h : OK w) : fget w 30 1 = .ref 32 := h.2.2.2.1 (30, 1, 32) (by decide)
theorem of30_2 {w : AW} (h : OK w) : fok w 30 5 2 = true := fok_of (oo30 h) (by decide)
theorem og30_2 {w : AW} (h : OK w) : fget w 30 2 = .ref 33 := h.2.2.2.1 (30, 2, 33) (by decide)
theorem of30_3 {w : AW} (h : OK w) : fok w 30 5 3 = true := fok_of (oo30 h) (by decide)
theorem og30_3 {w : AW} (h : OK w) : fget w 30 3 = .ref 34 := h.2.2.2.1 (30, 3, 34) (by decide)
theorem oa31 {w : AW} (h : OK w) : aok w 31 = true := by rw [aok_eq, h.2.2.1 31 (by decide)]; rfl
theorem ol31 {w : AW} (h : OK w) : alen w 31 = 31 := sh_ty (h.2.2.1 31 (by decide)) (by decide)
theorem oa32 {w : AW} (h : OK w) : aok w 32 = true := by rw [aok_eq, h.2.2.1 32 (by decide)]; rfl
theorem ol32 {w : AW} (h : OK w) : alen w 32 = 31 := sh_ty (h.2.2.1 32 (by decide)) (by decide)
theorem oa33 {w : AW} (h : OK w) : aok w 33 = true := by rw [aok_eq, h.2.2.1 33 (by decide)]; rfl
theorem ol33 {w : AW} (h : OK w) : alen w 33 = 10 := sh_ty (h.2.2.1 33 (by decide)) (by decide)
theorem oa34 {w : AW} (h : OK w) : aok w 34 = true := by rw [aok_eq, h.2.2.1 34 (by decide)]; rfl
theorem ol34 {w : AW} (h : OK w) : alen w 34 = 10 := sh_ty (h.2.2.1 34 (by decide)) (by decide)
theorem oa35 {w : AW} (h : OK w) : aok w 35 = true := by rw [aok_eq, h.2.2.1 35 (by decide)]; rfl
theorem ol35 {w : AW} (h : OK w) : alen w 35 = 100 := sh_ty (h.2.2.1 35 (by decide)) (by decide)
theorem oo36 {w : AW} (h : OK w) : obj w 36 2 = true := sh_obj (h.2.2.1 36 (by decide)) rfl
theorem oc36 {w : AW} (h : OK w) : cok w 36 2 = true := cok_of (oo36 h)
theorem of36_0 {w : AW} (h : OK w) : fok w 36 2 0 = true := fok_of (oo36 h) (by decide)
theorem og36_0 {w : AW} (h : OK w) : fget w 36 0 = .ref 37 := h.2.2.2.1 (36, 0, 37) (by decide)
theorem of36_1 {w : AW} (h : OK w) : fok w 36 2 1 = true := fok_of (oo36 h) (by decide)
theorem og36_1 {w : AW} (h : OK w) : fget w 36 1 = .ref 42 := h.2.2.2.1 (36, 1, 42) (by decide)
theorem of36_2 {w : AW} (h : OK w) : fok w 36 2 2 = true := fok_of (oo36 h) (by decide)
theorem og36_2 {w : AW} (h : OK w) : fget w 36 2 = .ref 46 := h.2.2.2.1 (36, 2, 46) (by decide)
theorem of36_3 {w : AW} (h : OK w) : fok w 36 2 3 = true := fok_of (oo36 h) (by decide)
theorem og36_3 {w : AW} (h : OK w) : fget w 36 3 = .int (fI w 36 3) := h.2.2.2.2 (36, 3) (by decide)
theorem ok36_3 {w : AW} (h : OK w) : fokk w 36 3 = true := fokk_of (oo36 h) (by decide)
theorem oo37 {w : AW} (h : OK w) : obj w 37 1 = true := sh_obj (h.2.2.1 37 (by decide)) rfl
theorem oc37 {w : AW} (h : OK w) : cok w 37 1 = true := cok_of (oo37 h)
theorem of37_0 {w : AW} (h : OK w) : fok w 37 1 0 = true := fok_of (oo37 h) (by decide)
theorem og37_0 {w : AW} (h : OK w) : fget w 37 0 = .ref 38 := h.2.2.2.1 (37, 0, 38) (by decide)
theorem of37_1 {w : AW} (h : OK w) : fok w 37 1 1 = true := fok_of (oo37 h) (by decide)
theorem og37_1 {w : AW} (h : OK w) : fget w 37 1 = .ref 39 := h.2.2.2.1 (37, 1, 39) (by decide)
theorem of37_2 {w : AW} (h : OK w) : fok w 37 1 2 = true := fok_of (oo37 h) (by decide)
theorem og37_2 {w : AW} (h : OK w) : fget w 37 2 = .ref 40 := h.2.2.2.1 (37, 2, 40) (by decide)
theorem of37_3 {w : AW} (h : OK w) : fok w 37 1 3 = true := fok_of (oo37 h) (by decide)
theorem og37_3 {w : AW} (h : OK w) : fget w 37 3 = .ref 41 := h.2.2.2.1 (37, 3, 41) (by decide)
theorem of37_4 {w : AW} (h : OK w) : fok w 37 1 4 = true := fok_of (oo37 h) (by decide)
theorem og37_4 {w : AW} (h : OK w) : fget w 37 4 = .int (fI w 37 4) := h.2.2.2.2 (37, 4) (by decide)
theorem ok37_4 {w : AW} (h : OK w) : fokk w 37 4 = true := fokk_of (oo37 h) (by decide)
theorem of37_5 {w : AW} (h : OK w) : fok w 37 1 5 = true := fok_of (oo37 h) (by decide)
theorem og37_5 {w : AW} (h : OK w) : fget w 37 5 = .int (fI w 37 5) := h.2.2.2.2 (37, 5) (by decide)
theorem ok37_5 {w : AW} (h : OK w) : fokk w 37 5 = true := fokk_of (oo37 h) (by decide)
theorem of37_6 {w : AW} (h : OK w) : fok w 37 1 6 = true := fok_of (oo37 h) (by decide)
theorem og37_6 {w : AW} (h : OK w) : fget w 37 6 = .int (fI w 37 6) := h.2.2.2.2 (37, 6) (by decide)
theorem ok37_6 {w : AW} (h : OK w) : fokk w 37 6 = true := fokk_of (oo37 h) (by decide)
theorem oa38 {w : AW} (h : OK w) : aok w 38 = true := by rw [aok_eq, h.2.2.1 38 (by decide)]; rfl
theorem ol38 {w : AW} (h : OK w) : alen w 38 = 8 := sh_ty (h.2.2.1 38 (by decide)) (by decide)
theorem oa39 {w : AW} (h : OK w) : aok w 39 = true := by rw [aok_eq, h.2.2.1 39 (by decide)]; rfl
theorem ol39 {w : AW} (h : OK w) : alen w 39 = 8 := sh_ty (h.2.2.1 39 (by decide)) (by decide)
theorem oa40 {w : AW} (h : OK w) : aok w 40 = true := by rw [aok_eq, h.2.2.1 40 (by decide)]; rfl
theorem ol40 {w : AW} (h : OK w) : alen w 40 = 8 := sh_ty (h.2.2.1 40 (by decide)) (by decide)
theorem oa41 {w : AW} (h : OK w) : aok w 41 = true := by rw [aok_eq, h.2.2.1 41 (by decide)]; rfl
theorem ol41 {w : AW} (h : OK w) : alen w 41 = 8 := sh_ty (h.2.2.1 41 (by decide)) (by decide)
theorem oo42 {w : AW} (h : OK w) : obj w 42 7 = true := sh_obj (h.2.2.1 42 (by decide)) rfl
theorem oc42 {w : AW} (h : OK w) : cok w 42 7 = true := cok_of (oo42 h)
theorem of42_0 {w : AW} (h : OK w) : fok w 42 7 0 = true := fok_of (oo42 h) (by decide)
theorem og42_0 {w : AW} (h : OK w) : fget w 42 0 = .ref 43 := h.2.2.2.1 (42, 0, 43) (by decide)
theorem of42_1 {w : AW} (h : OK w) : fok w 42 7 1 = true := fok_of (oo42 h) (by decide)
theorem og42_1 {w : AW} (h : OK w) : fget w 42 1 = .ref 44 := h.2.2.2.1 (42, 1, 44) (by decide)
theorem of42_2 {w : AW} (h : OK w) : fok w 42 7 2 = true := fok_of (oo42 h) (by decide)
theorem og42_2 {w : AW} (h : OK w) : fget w 42 2 = .ref 45 := h.2.2.2.1 (42, 2, 45) (by decide)
theorem of42_3 {w : AW} (h : OK w) : fok w 42 7 3 = true := fok_of (oo42 h) (by decide)
theorem og42_3 {w : AW} (h : OK w) : fget w 42 3 = .int (fI w 42 3) := h.2.2.2.2 (42, 3) (by decide)
theorem ok42_3 {w : AW} (h : OK w) : fokk w 42 3 = true := fokk_of (oo42 h) (by decide)
theorem of42_4 {w : AW} (h : OK w) : fok w 42 7 4 = true := fok_of (oo42 h) (by decide)
theorem og42_4 {w : AW} (h : OK w) : fget w 42 4 = .int (fI w 42 4) := h.2.2.2.2 (42, 4) (by decide)
theorem ok42_4 {w : AW} (h : OK w) : fokk w 42 4 = true := fokk_of (oo42 h) (by decide)
theorem oa43 {w : AW} (h : OK w) : aok w 43 = true := by rw [aok_eq, h.2.2.1 43 (by decide)]; rfl
theorem ol43 {w : AW} (h : OK w) : alen w 43 = 6 := sh_ty (h.2.2.1 43 (by decide)) (by decide)
theorem oa44 {w : AW} (h : OK w) : aok w 44 = true := by rw [aok_eq, h.2.2.1 44 (by decide)]; rfl
theorem ol44 {w : AW} (h : OK w) : alen w 44 = 6 := sh_ty (h.2.2.1 44 (by decide)) (by decide)
theorem oa45 {w : AW} (h : OK w) : aok w 45 = true := by rw [aok_eq, h.2.2.1 45 (by decide)]; rfl
theorem ol45 {w : AW} (h : OK w) : alen w 45 = 6 := sh_ty (h.2.2.1 45 (by decide)) (by decide)
theorem oo46 {w : AW} (h : OK w) : obj w 46 6 = true := sh_obj (h.2.2.1 46 (by decide)) rfl
theorem oc46 {w : AW} (h : OK w) : cok w 46 6 = true := cok_of (oo46 h)
theorem of46_0 {w : AW} (h : OK w) : fok w 46 6 0 = true := fok_of (oo46 h) (by decide)
theorem og46_0 {w : AW} (h : OK w) : fget w 46 0 = .ref 47 := h.2.2.2.1 (46, 0, 47) (by decide)
theorem of46_1 {w : AW} (h : OK w) : fok w 46 6 1 = true := fok_of (oo46 h) (by decide)
theorem og46_1 {w : AW} (h : OK w) : fget w 46 1 = .ref 48 := h.2.2.2.1 (46, 1, 48) (by decide)
theorem of46_2 {w : AW} (h : OK w) : fok w 46 6 2 = true := fok_of (oo46 h) (by decide)
theorem og46_2 {w : AW} (h : OK w) : fget w 46 2 = .ref 49 := h.2.2.2.1 (46, 2, 49) (by decide)
theorem of46_3 {w : AW} (h : OK w) : fok w 46 6 3 = true := fok_of (oo46 h) (by decide)
theorem og46_3 {w : AW} (h : OK w) : fget w 46 3 = .int (fI w 46 3) := h.2.2.2.2 (46, 3) (by decide)
theorem ok46_3 {w : AW} (h : OK w) : fokk w 46 3 = true := fokk_of (oo46 h) (by decide)
theorem oa47 {w : AW} (h : OK w) : aok w 47 = true := by rw [aok_eq, h.2.2.1 47 (by decide)]; rfl
theorem ol47 {w : AW} (h : OK w) : alen w 47 = 8 := sh_ty (h.2.2.1 47 (by decide)) (by decide)
theorem oa48 {w : AW} (h : OK w) : aok w 48 = true := by rw [aok_eq, h.2.2.1 48 (by decide)]; rfl
theorem ol48 {w : AW} (h : OK w) : alen w 48 = 8 := sh_ty (h.2.2.1 48 (by decide)) (by decide)
theorem oa49 {w : AW} (h : OK w) : zok w 49 = true := by rw [zok_eq, h.2.2.1 49 (by decide)]; rfl
theorem ol49 {w : AW} (h : OK w) : alen w 49 = 8 := sh_ty (h.2.2.1 49 (by decide)) (by decide)
theorem oo50 {w : AW} (h : OK w) : obj w 50 2 = true := sh_obj (h.2.2.1 50 (by decide)) rfl
theorem oc50 {w : AW} (h : OK w) : cok w 50 2 = true := cok_of (oo50 h)
theorem of50_0 {w : AW} (h : OK w) : fok w 50 2 0 = true := fok_of (oo50 h) (by decide)
theorem og50_0 {w : AW} (h : OK w) : fget w 50 0 = .ref 51 := h.2.2.2.1 (50, 0, 51) (by decide)
theorem of50_1 {w : AW} (h : OK w) : fok w 50 2 1 = true := fok_of (oo50 h) (by decide)
theorem og50_1 {w : AW} (h : OK w) : fget w 50 1 = .ref 56 := h.2.2.2.1 (50, 1, 56) (by decide)
theorem of50_2 {w : AW} (h : OK w) : fok w 50 2 2 = true := fok_of (oo50 h) (by decide)
theorem og50_2 {w : AW} (h : OK w) : fget w 50 2 = .ref 60 := h.2.2.2.1 (50, 2, 60) (by decide)
theorem of50_3 {w : AW} (h : OK w) : fok w 50 2 3 = true := fok_of (oo50 h) (by decide)
theorem og50_3 {w : AW} (h : OK w) : fget w 50 3 = .int (fI w 50 3) := h.2.2.2.2 (50, 3) (by decide)
theorem ok50_3 {w : AW} (h : OK w) : fokk w 50 3 = true := fokk_of (oo50 h) (by decide)
theorem oo51 {w : AW} (h : OK w) : obj w 51 1 = true := sh_obj (h.2.2.1 51 (by decide)) rfl
theorem oc51 {w : AW} (h : OK w) : cok w 51 1 = true := cok_of (oo51 h)
theorem of51_0 {w : AW} (h : OK w) : fok w 51 1 0 = true := fok_of (oo51 h) (by decide)
theorem og51_0 {w : AW} (h : OK w) : fget w 51 0 = .ref 52 := h.2.2.2.1 (51, 0, 52) (by decide)
theorem of51_1 {w : AW} (h : OK w) : fok w 51 1 1 = true := fok_of (oo51 h) (by decide)
theorem og51_1 {w : AW} (h : OK w) : fget w 51 1 = .ref 53 := h.2.2.2.1 (51, 1, 53) (by decide)
theorem of51_2 {w : AW} (h : OK w) : fok w 51 1 2 = true := fok_of (oo51 h) (by decide)
theorem og51_2 {w : AW} (h : OK w) : fget w 51 2 = .ref 54 := h.2.2.2.1 (51, 2, 54) (by decide)
theorem of51_3 {w : AW} (h : OK w) : fok w 51 1 3 = true := fok_of (oo51 h) (by decide)
theorem og51_3 {w : AW} (h : OK w) : fget w 51 3 = .ref 55 := h.2.2.2.1 (51, 3, 55) (by decide)
theorem of51_4 {w : AW} (h : OK w) : fok w 51 1 4 = true := fok_of (oo51 h) (by decide)
theorem og51_4 {w : AW} (h : OK w) : fget w 51 4 = .int (fI w 51 4) := h.2.2.2.2 (51, 4) (by decide)
theorem ok51_4 {w : AW} (h : OK w) : fokk w 51 4 = true := fokk_of (oo51 h) (by decide)
theorem of51_5 {w : AW} (h : OK w) : fok w 51 1 5 = true := fok_of (oo51 h) (by decide)
theorem og51_5 {w : AW} (h : OK w) : fget w 51 5 = .int (fI w 51 5) := h.2.2.2.2 (51, 5) (by decide)
theorem ok51_5 {w : AW} (h : OK w) : fokk w 51 5 = true := fokk_of (oo51 h) (by decide)
theorem of51_6 {w : AW} (h : OK w) : fok w 51 1 6 = true := fok_of (oo51 h) (by decide)
theorem og51_6 {w : AW} (h : OK w) : fget w 51 6 = .int (fI w 51 6) := h.2.2.2.2 (51, 6) (by decide)
theorem ok51_6 {w : AW} (h : OK w) : fokk w 51 6 = true := fokk_of (oo51 h) (by decide)
theorem oa52 {w : AW} (h : OK w) : aok w 52 = true := by rw [aok_eq, h.2.2.1 52 (by decide)]; rfl
theorem ol52 {w : AW} (h : OK w) : alen w 52 = 8 := sh_ty (h.2.2.1 52 (by decide)) (by decide)
theorem oa53 {w : AW} (h : OK w) : aok w 53 = true := by rw [aok_eq, h.2.2.1 53 (by decide)]; rfl
theorem ol53 {w : AW} (h : OK w) : alen w 53 = 8 := sh_ty (h.2.2.1 53 (by decide)) (by decide)
theorem oa54 {w : AW} (h : OK w) : aok w 54 = true := by rw [aok_eq, h.2.2.1 54 (by decide)]; rfl
theorem ol54 {w : AW} (h : OK w) : alen w 54 = 8 := sh_ty (h.2.2.1 54 (by decide)) (by decide)
theorem oa55 {w : AW} (h : OK w) : aok w 55 = true := by rw [aok_eq, h.2.2.1 55 (by decide)]; rfl
theorem ol55 {w : AW} (h : OK w) : alen w 55 = 8 := sh_ty (h.2.2.1 55 (by decide)) (by decide)
theorem oo56 {w : AW} (h : OK w) : obj w 56 7 = true := sh_obj (h.2.2.1 56 (by decide)) rfl
theorem oc56 {w : AW} (h : OK w) : cok w 56 7 = true := cok_of (oo56 h)
theorem of56_0 {w : AW} (h : OK w) : fok w 56 7 0 = true := fok_of (oo56 h) (by decide)
theorem og56_0 {w : AW} (h : OK w) : fget w 56 0 = .ref 57 := h.2.2.2.1 (56, 0, 57) (by decide)
theorem of56_1 {w : AW} (h : OK w) : fok w 56 7 1 = true := fok_of (oo56 h) (by decide)
theorem og56_1 {w : AW} (h : OK w) : fget w 56 1 = .ref 58 := h.2.2.2.1 (56, 1, 58) (by decide)
theorem of56_2 {w : AW} (h : OK w) : fok w 56 7 2 = true := fok_of (oo56 h) (by decide)
theorem og56_2 {w : AW} (h : OK w) : fget w 56 2 = .ref 59 := h.2.2.2.1 (56, 2, 59) (by decide)
theorem of56_3 {w : AW} (h : OK w) : fok w 56 7 3 = true := fok_of (oo56 h) (by decide)
theorem og56_3 {w : AW} (h : OK w) : fget w 56 3 = .int (fI w 56 3) := h.2.2.2.2 (56, 3) (by decide)
theorem ok56_3 {w : AW} (h : OK w) : fokk w 56 3 = true := fokk_of (oo56 h) (by decide)
theorem of56_4 {w : AW} (h : OK w) : fok w 56 7 4 = true := fok_of (oo56 h) (by decide)
theorem og56_4 {w : AW} (h : OK w) : fget w 56 4 = .int (fI w 56 4) := h.2.2.2.2 (56, 4) (by decide)
theorem ok56_4 {w : AW} (h : OK w) : fokk w 56 4 = true := fokk_of (oo56 h) (by decide)
theorem oa57 {w : AW} (h : OK w) : aok w 57 = true := by rw [aok_eq, h.2.2.1 57 (by decide)]; rfl
theorem ol57 {w : AW} (h : OK w) : alen w 57 = 6 := sh_ty (h.2.2.1 57 (by decide)) (by decide)
theorem oa58 {w : AW} (h : OK w) : aok w 58 = true := by rw [aok_eq, h.2.2.1 58 (by decide)]; rfl
theorem ol58 {w : AW} (h : OK w) : alen w 58 = 6 := sh_ty (h.2.2.1 58 (by decide)) (by decide)
theorem oa59 {w : AW} (h : OK w) : aok w 59 = true := by rw [aok_eq, h.2.2.1 59 (by decide)]; rfl
theorem ol59 {w : AW} (h : OK w) : alen w 59 = 6 := sh_ty (h.2.2.1 59 (by decide)) (by decide)
theorem oo60 {w : AW} (h : OK w) : obj w 60 6 = true := sh_obj (h.2.2.1 60 (by decide)) rfl
theorem oc60 {w : AW} (h : OK w) : cok w 60 6 = true := cok_of (oo60 h)
theorem of60_0 {w : AW} (h : OK w) : fok w 60 6 0 = true := fok_of (oo60 h) (by decide)
theorem og60_0 {w : AW} (h : OK w) : fget w 60 0 = .ref 61 := h.2.2.2.1 (60, 0, 61) (by decide)
theorem of60_1 {w : AW} (h : OK w) : fok w 60 6 1 = true := fok_of (oo60 h) (by decide)
theorem og60_1 {w : AW} (h : OK w) : fget w 60 1 = .ref 62 := h.2.2.2.1 (60, 1, 62) (by decide)
theorem of60_2 {w : AW} (h : OK w) : fok w 60 6 2 = true := fok_of (oo60 h) (by decide)
theorem og60_2 {w : AW} (h : OK w) : fget w 60 2 = .ref 63 := h.2.2.2.1 (60, 2, 63) (by decide)
theorem of60_3 {w : AW} (h : OK w) : fok w 60 6 3 = true := fok_of (oo60 h) (by decide)
theorem og60_3 {w : AW} (h : OK w) : fget w 60 3 = .int (fI w 60 3) := h.2.2.2.2 (60, 3) (by decide)
theorem ok60_3 {w : AW} (h : OK w) : fokk w 60 3 = true := fokk_of (oo60 h) (by decide)
theorem oa61 {w : AW} (h : OK w) : aok w 61 = true := by rw [aok_eq, h.2.2.1 61 (by decide)]; rfl
theorem ol61 {w : AW} (h : OK w) : alen w 61 = 8 := sh_ty (h.2.2.1 61 (by decide)) (by decide)
theorem oa62 {w : AW} (h : OK w) : aok w 62 = true := by rw [aok_eq, h.2.2.1 62 (by decide)]; rfl
theorem ol62 {w : AW} (h : OK w) : alen w 62 = 8 := sh_ty (h.2.2.1 62 (by decide)) (by decide)
theorem oa63 {w : AW} (h : OK w) : zok w 63 = true := by rw [zok_eq, h.2.2.1 63 (by decide)]; rfl
theorem ol63 {w : AW} (h : OK w) : alen w 63 = 8 := sh_ty (h.2.2.1 63 (by decide)) (by decide)
theorem oo64 {w : AW} (h : OK w) : obj w 64 9 = true := sh_obj (h.2.2.1 64 (by decide)) rfl
theorem oc64 {w : AW} (h : OK w) : cok w 64 9 = true := cok_of (oo64 h)
theorem of64_0 {w : AW} (h : OK w) : fok w 64 9 0 = true := fok_of (oo64 h) (by decide)
theorem og64_0 {w : AW} (h : OK w) : fget w 64 0 = .int (fI w 64 0) := h.2.2.2.2 (64, 0) (by decide)
theorem ok64_0 {w : AW} (h : OK w) : fokk w 64 0 = true := fokk_of (oo64 h) (by decide)
theorem of64_1 {w : AW} (h : OK w) : fok w 64 9 1 = true := fok_of (oo64 h) (by decide)
theorem og64_1 {w : AW} (h : OK w) : fget w 64 1 = .ref 65 := h.2.2.2.1 (64, 1, 65) (by decide)
theorem of64_2 {w : AW} (h : OK w) : fok w 64 9 2 = true := fok_of (oo64 h) (by decide)
theorem og64_2 {w : AW} (h : OK w) : fget w 64 2 = .ref 66 := h.2.2.2.1 (64, 2, 66) (by decide)
theorem of64_3 {w : AW} (h : OK w) : fok w 64 9 3 = true := fok_of (oo64 h) (by decide)
theorem og64_3 {w : AW} (h : OK w) : fget w 64 3 = .ref 67 := h.2.2.2.1 (64, 3, 67) (by decide)
theorem of64_4 {w : AW} (h : OK w) : fok w 64 9 4 = true := fok_of (oo64 h) (by decide)
theorem og64_4 {w : AW} (h : OK w) : fget w 64 4 = .ref 68 := h.2.2.2.1 (64, 4, 68) (by decide)
theorem of64_5 {w : AW} (h : OK w) : fok w 64 9 5 = true := fok_of (oo64 h) (by decide)
theorem og64_5 {w : AW} (h : OK w) : fget w 64 5 = .int (fI w 64 5) := h.2.2.2.2 (64, 5) (by decide)
theorem ok64_5 {w : AW} (h : OK w) : fokk w 64 5 = true := fokk_of (oo64 h) (by decide)
theorem of64_6 {w : AW} (h : OK w) : fok w 64 9 6 = true := fok_of (oo64 h) (by decide)
theorem og64_6 {w : AW} (h : OK w) : fget w 64 6 = .int (fI w 64 6) := h.2.2.2.2 (64, 6) (by decide)
theorem ok64_6 {w : AW} (h : OK w) : fokk w 64 6 = true := fokk_of (oo64 h) (by decide)
theorem of64_7 {w : AW} (h : OK w) : fok w 64 9 7 = true := fok_of (oo64 h) (by decide)
theorem og64_7 {w : AW} (h : OK w) : fget w 64 7 = .ref 69 := h.2.2.2.1 (64, 7, 69) (by decide)
theorem of64_8 {w : AW} (h : OK w) : fok w 64 9 8 = true := fok_of (oo64 h) (by decide)
theorem og64_8 {w : AW} (h : OK w) : fget w 64 8 = .ref 70 := h.2.2.2.1 (64, 8, 70) (by decide)
theorem of64_9 {w : AW} (h : OK w) : fok w 64 9 9 = true := fok_of (oo64 h) (by decide)
theorem og64_9 {w : AW} (h : OK w) : fget w 64 9 = .ref 71 := h.2.2.2.1 (64, 9, 71) (by decide)
theorem of64_10 {w : AW} (h : OK w) : fok w 64 9 10 = true := fok_of (oo64 h) (by decide)
theorem og64_10 {w : AW} (h : OK w) : fget w 64 10 = .ref 72 := h.2.2.2.1 (64, 10, 72) (by decide)
theorem of64_11 {w : AW} (h : OK w) : fok w 64 9 11 = true := fok_of (oo64 h) (by decide)
theorem og64_11 {w : AW} (h : OK w) : fget w 64 11 = .ref 73 := h.2.2.2.1 (64, 11, 73) (by decide)
theorem of64_12 {w : AW} (h : OK w) : fok w 64 9 12 = true := fok_of (oo64 h) (by decide)
theorem og64_12 {w : AW} (h : OK w) : fget w 64 12 = .ref 74 := h.2.2.2.1 (64, 12, 74) (by decide)
theorem of64_13 {w : AW} (h : OK w) : fok w 64 9 13 = true := fok_of (oo64 h) (by decide)
theorem og64_13 {w : AW} (h : OK w) : fget w 64 13 = .int (fI w 64 13) := h.2.2.2.2 (64, 13) (by decide)
theorem ok64_13 {w : AW} (h : OK w) : fokk w 64 13 = true := fokk_of (oo64 h) (by decide)
theorem of64_14 {w : AW} (h : OK w) : fok w 64 9 14 = true := fok_of (oo64 h) (by decide)
theorem og64_14 {w : AW} (h : OK w) : fget w 64 14 = .ref 75 := h.2.2.2.1 (64, 14, 75) (by decide)
theorem of64_15 {w : AW} (h : OK w) : fok w 64 9 15 = true := fok_of (oo64 h) (by decide)
theorem og64_15 {w : AW} (h : OK w) : fget w 64 15 = .int (fI w 64 15) := h.2.2.2.2 (64, 15) (by decide)
theorem ok64_15 {w : AW} (h : OK w) : fokk w 64 15 = true := fokk_of (oo64 h) (by decide)
theorem of64_16 {w : AW} (h : OK w) : fok w 64 9 16 = true := fok_of (oo64 h) (by decide)
theorem og64_16 {w : AW} (h : OK w) : fget w 64 16 = .ref 76 := h.2.2.2.1 (64, 16, 76) (by decide)
theorem of64_17 {w : AW} (h : OK w) : fok w 64 9 17 = true := fok_of (oo64 h) (by decide)
theorem og64_17 {w : AW} (h : OK w) : fget w 64 17 = .ref 77 := h.2.2.2.1 (64, 17, 77) (by decide)
theorem of64_18 {w : AW} (h : OK w) : fok w 64 9 18 = true := fok_of (oo64 h) (by decide)
theorem og64_18 {w : AW} (h : OK w) : fget w 64 18 = .ref 78 := h.2.2.2.1 (64, 18, 78) (by decide)
theorem of64_19 {w : AW} (h : OK w) : fok w 64 9 19 = true := fok_of (oo64 h) (by decide)
theorem og64_19 {w : AW} (h : OK w) : fget w 64 19 = .ref 79 := h.2.2.2.1 (64, 19, 79) (by decide)
theorem of64_20 {w : AW} (h : OK w) : fok w 64 9 20 = true := fok_of (oo64 h) (by decide)
theorem og64_20 {w : AW} (h : OK w) : fget w 64 20 = .ref 80 := h.2.2.2.1 (64, 20, 80) (by decide)
theorem of64_21 {w : AW} (h : OK w) : fok w 64 9 21 = true := fok_of (oo64 h) (by decide)
theorem og64_21 {w : AW} (h : OK w) : fget w 64 21 = .int (fI w 64 21) := h.2.2.2.2 (64, 21) (by decide)
theorem ok64_21 {w : AW} (h : OK w) : fokk w 64 21 = true := fokk_of (oo64 h) (by decide)
theorem of64_22 {w : AW} (h : OK w) : fok w 64 9 22 = true := fok_of (oo64 h) (by decide)
theorem og64_22 {w : AW} (h : OK w) : fget w 64 22 = .ref 81 := h.2.2.2.1 (64, 22, 81) (by decide)
theorem of64_23 {w : AW} (h : OK w) : fok w 64 9 23 = true := fok_of (oo64 h) (by decide)
theorem og64_23 {w : AW} (h : OK w) : fget w 64 23 = .int (fI w 64 23) := h.2.2.2.2 (64, 23) (by decide)
theorem ok64_23 {w : AW} (h : OK w) : fokk w 64 23 = true := fokk_of (oo64 h) (by decide)
theorem of64_24 {w : AW} (h : OK w) : fok w 64 9 24 = true := fok_of (oo64 h) (by decide)
theorem og64_24 {w : AW} (h : OK w) : fget w 64 24 = .int (fI w 64 24) := h.2.2.2.2 (64, 24) (by decide)
theorem ok64_24 {w : AW} (h : OK w) : fokk w 64 24 = true := fokk_of (oo64 h) (by decide)
theorem of64_25 {w : AW} (h : OK w) : fok w 64 9 25 = true := fok_of (oo64 h) (by decide)
theorem og64_25 {w : AW} (h : OK w) : fget w 64 25 = .int (fI w 64 25) := h.2.2.2.2 (64, 25) (by decide)
theorem ok64_25 {w : AW} (h : OK w) : fokk w 64 25 = true := fokk_of (oo64 h) (by decide)
theorem of64_26 {w : AW} (h : OK w) : fok w 64 9 26 = true := fok_of (oo64 h) (by decide)
theorem og64_26 {w : AW} (h : OK w) : fget w 64 26 = .int (fI w 64 26) := h.2.2.2.2 (64, 26) (by decide)
theorem ok64_26 {w : AW} (h : OK w) : fokk w 64 26 = true := fokk_of (oo64 h) (by decide)
theorem of64_27 {w : AW} (h : OK w) : fok w 64 9 27 = true := fok_of (oo64 h) (by decide)
theorem og64_27 {w : AW} (h : OK w) : fget w 64 27 = .int (fI w 64 27) := h.2.2.2.2 (64, 27) (by decide)
theorem ok64_27 {w : AW} (h : OK w) : fokk w 64 27 = true := fokk_of (oo64 h) (by decide)
theorem of64_28 {w : AW} (h : OK w) : fok w 64 9 28 = true := fok_of (oo64 h) (by decide)
theorem og64_28 {w : AW} (h : OK w) : fget w 64 28 = .ref 82 := h.2.2.2.1 (64, 28, 82) (by decide)
theorem of64_29 {w : AW} (h : OK w) : fok w 64 9 29 = true := fok_of (oo64 h) (by decide)
theorem og64_29 {w : AW} (h : OK w) : fget w 64 29 = .ref 83 := h.2.2.2.1 (64, 29, 83) (by decide)
theorem of64_30 {w : AW} (h : OK w) : fok w 64 9 30 = true := fok_of (oo64 h) (by decide)
theorem og64_30 {w : AW} (h : OK w) : fget w 64 30 = .ref 84 := h.2.2.2.1 (64, 30, 84) (by decide)
theorem of64_31 {w : AW} (h : OK w) : fok w 64 9 31 = true := fok_of (oo64 h) (by decide)
theorem og64_31 {w : AW} (h : OK w) : fget w 64 31 = .ref 85 := h.2.2.2.1 (64, 31, 85) (by decide)
theorem of64_32 {w : AW} (h : OK w) : fok w 64 9 32 = true := fok_of (oo64 h) (by decide)
theorem og64_32 {w : AW} (h : OK w) : fget w 64 32 = .ref 86 := h.2.2.2.1 (64, 32, 86) (by decide)
theorem of64_33 {w : AW} (h : OK w) : fok w 64 9 33 = true := fok_of (oo64 h) (by decide)
theorem og64_33 {w : AW} (h : OK w) : fget w 64 33 = .ref 87 := h.2.2.2.1 (64, 33, 87) (by decide)
theorem of64_34 {w : AW} (h : OK w) : fok w 64 9 34 = true := fok_of (oo64 h) (by decide)
theorem og64_34 {w : AW} (h : OK w) : fget w 64 34 = .ref 88 := h.2.2.2.1 (64, 34, 88) (by decide)
theorem of64_35 {w : AW} (h : OK w) : fok w 64 9 35 = true := fok_of (oo64 h) (by decide)
theorem og64_35 {w : AW} (h : OK w) : fget w 64 35 = .int (fI w 64 35) := h.2.2.2.2 (64, 35) (by decide)
theorem ok64_35 {w : AW} (h : OK w) : fokk w 64 35 = true := fokk_of (oo64 h) (by decide)
theorem of64_36 {w : AW} (h : OK w) : fok w 64 9 36 = true := fok_of (oo64 h) (by decide)
theorem og64_36 {w : AW} (h : OK w) : fget w 64 36 = .int (fI w 64 36) := h.2.2.2.2 (64, 36) (by decide)
theorem ok64_36 {w : AW} (h : OK w) : fokk w 64 36 = true := fokk_of (oo64 h) (by decide)
theorem oa65 {w : AW} (h : OK w) : aok w 65 = true := by rw [aok_eq, h.2.2.1 65 (by decide)]; rfl
theorem ol65 {w : AW} (h : OK w) : alen w 65 = 8 := sh_ty (h.2.2.1 65 (by decide)) (by decide)
theorem oa66 {w : AW} (h : OK w) : aok w 66 = true := by rw [aok_eq, h.2.2.1 66 (by decide)]; rfl
theorem ol66 {w : AW} (h : OK w) : alen w 66 = 8 := sh_ty (h.2.2.1 66 (by decide)) (by decide)
theorem oa67 {w : AW} (h : OK w) : aok w 67 = true := by rw [aok_eq, h.2.2.1 67 (by decide)]; rfl
theorem ol67 {w : AW} (h : OK w) : alen w 67 = 8 := sh_ty (h.2.2.1 67 (by decide)) (by decide)
theorem oa68 {w : AW} (h : OK w) : aok w 68 = true := by rw [aok_eq, h.2.2.1 68 (by decide)]; rfl
theorem ol68 {w : AW} (h : OK w) : alen w 68 = 8 := sh_ty (h.2.2.1 68 (by decide)) (by decide)
theorem oa69 {w : AW} (h : OK w) : aok w 69 = true := by rw [aok_eq, h.2.2.1 69 (by decide)]; rfl
theorem ol69 {w : AW} (h : OK w) : alen w 69 = 6 := sh_ty (h.2.2.1 69 (by decide)) (by decide)
theorem oa70 {w : AW} (h : OK w) : aok w 70 = true := by rw [aok_eq, h.2.2.1 70 (by decide)]; rfl
theorem ol70 {w : AW} (h : OK w) : alen w 70 = 6 := sh_ty (h.2.2.1 70 (by decide)) (by decide)
theorem oa71 {w : AW} (h : OK w) : aok w 71 = true := by rw [aok_eq, h.2.2.1 71 (by decide)]; rfl
theorem ol71 {w : AW} (h : OK w) : alen w 71 = 6 := sh_ty (h.2.2.1 71 (by decide)) (by decide)
theorem oa72 {w : AW} (h : OK w) : aok w 72 = true := by rw [aok_eq, h.2.2.1 72 (by decide)]; rfl
theorem ol72 {w : AW} (h : OK w) : alen w 72 = 8 := sh_ty (h.2.2.1 72 (by decide)) (by decide)
theorem oa73 {w : AW} (h : OK w) : aok w 73 = true := by rw [aok_eq, h.2.2.1 73 (by decide)]; rfl
theorem ol73 {w : AW} (h : OK w) : alen w 73 = 8 := sh_ty (h.2.2.1 73 (by decide)) (by decide)
theorem oa74 {w : AW} (h : OK w) : aok w 74 = true := by rw [aok_eq, h.2.2.1 74 (by decide)]; rfl
theorem ol74 {w : AW} (h : OK w) : alen w 74 = 8 := sh_ty (h.2.2.1 74 (by decide)) (by decide)
theorem oa75 {w : AW} (h : OK w) : aok w 75 = true := by rw [aok_eq, h.2.2.1 75 (by decide)]; rfl
theorem ol75 {w : AW} (h : OK w) : alen w 75 = 60 := sh_ty (h.2.2.1 75 (by decide)) (by decide)
theorem oa76 {w : AW} (h : OK w) : aok w 76 = true := by rw [aok_eq, h.2.2.1 76 (by decide)]; rfl
theorem ol76 {w : AW} (h : OK w) : alen w 76 = 60 := sh_ty (h.2.2.1 76 (by decide)) (by decide)
theorem oa77 {w : AW} (h : OK w) : aok w 77 = true := by rw [aok_eq, h.2.2.1 77 (by decide)]; rfl
theorem ol77 {w : AW} (h : OK w) : alen w 77 = 60 := sh_ty (h.2.2.1 77 (by decide)) (by decide)
theorem oa78 {w : AW} (h : OK w) : aok w 78 = true := by rw [aok_eq, h.2.2.1 78 (by decide)]; rfl
theorem ol78 {w : AW} (h : OK w) : alen w 78 = 60 := sh_ty (h.2.2.1 78 (by decide)) (by decide)
theorem oa79 {w : AW} (h : OK w) : aok w 79 = true := by rw [aok_eq, h.2.2.1 79 (by decide)]; rfl
theorem ol79 {w : AW} (h : OK w) : alen w 79 = 60 := sh_ty (h.2.2.1 79 (by decide)) (by decide)
theorem oa80 {w : AW} (h : OK w) : aok w 80 = true := by rw [aok_eq, h.2.2.1 80 (by decide)]; rfl
theorem ol80 {w : AW} (h : OK w) : alen w 80 = 60 := sh_ty (h.2.2.1 80 (by decide)) (by decide)
theorem oa81 {w : AW} (h : OK w) : aok w 81 = true := by rw [aok_eq, h.2.2.1 81 (by decide)]; rfl
theorem ol81 {w : AW} (h : OK w) : alen w 81 = 11 := sh_ty (h.2.2.1 81 (by decide)) (by decide)
theorem oa82 {w : AW} (h : OK w) : jok w 82 = true := by rw [jok_eq, h.2.2.1 82 (by decide)]; rfl
theorem ol82 {w : AW} (h : OK w) : alen w 82 = 64 := sh_ty (h.2.2.1 82 (by decide)) (by decide)
theorem oa83 {w : AW} (h : OK w) : jok w 83 = true := by rw [jok_eq, h.2.2.1 83 (by decide)]; rfl
theorem ol83 {w : AW} (h : OK w) : alen w 83 = 64 := sh_ty (h.2.2.1 83 (by decide)) (by decide)
theorem oa84 {w : AW} (h : OK w) : zok w 84 = true := by rw [zok_eq, h.2.2.1 84 (by decide)]; rfl
theorem ol84 {w : AW} (h : OK w) : alen w 84 = 1000 := sh_ty (h.2.2.1 84 (by decide)) (by decide)
theorem oa85 {w : AW} (h : OK w) : aok w 85 = true := by rw [aok_eq, h.2.2.1 85 (by decide)]; rfl
theorem ol85 {w : AW} (h : OK w) : alen w 85 = 8 := sh_ty (h.2.2.1 85 (by decide)) (by decide)
theorem oa86 {w : AW} (h : OK w) : aok w 86 = true := by rw [aok_eq, h.2.2.1 86 (by decide)]; rfl
theorem ol86 {w : AW} (h : OK w) : alen w 86 = 100 := sh_ty (h.2.2.1 86 (by decide)) (by decide)
theorem oa87 {w : AW} (h : OK w) : aok w 87 = true := by rw [aok_eq, h.2.2.1 87 (by decide)]; rfl
theorem ol87 {w : AW} (h : OK w) : alen w 87 = 180 := sh_ty (h.2.2.1 87 (by decide)) (by decide)
theorem oa88 {w : AW} (h : OK w) : zok w 88 = true := by rw [zok_eq, h.2.2.1 88 (by decide)]; rfl
theorem ol88 {w : AW} (h : OK w) : alen w 88 = 2 := sh_ty (h.2.2.1 88 (by decide)) (by decide)
