/-! The algebra of worlds: what a write changes -/
theorem sc_i {x : Int32} : isSec (.int x) = false := by simp [isSec]
theorem sc_r {x : Nat} : isSec (.ref x) = false := by simp [isSec]
theorem sc_l {x : Int64} : isSec (.long x) = false := by simp [isSec]
theorem sc_u : isSec uns = false := by decide
theorem sc_s : isSec (.retAddr 0) = false := by decide
theorem le4_0 : ([] : List Value).length ≤ 4 := by decide
theorem le4_1 {a : Value} : [a].length ≤ 4 := by simp
theorem le4_2 {a b : Value} : [a, b].length ≤ 4 := by simp
theorem le4_3 {a b c : Value} : [a, b, c].length ≤ 4 := by simp
/-- an object of a class, with all its fields -/
def obj (w : AW) (f ci : Nat) : Bool := match w[f]? with
  | some (.inr o) => Nat.beq o.1 ci && Nat.beq o.2.length (kD ci).2.2.length
  | _ => false
def fokk (w : AW) (f k : Nat) : Bool := match w[f]? with
  | some (.inr o) => Nat.blt k o.2.length
  | _ => false
def nf (ci : Nat) : Nat := (kD ci).2.2.length
/-- a field that is an int, a long -/
def fI (w : AW) (f k : Nat) : Int32 := match fget w f k with
  | .int x => x
  | _ => 0
/-- the shape of a cell: what no write changes -/
def shp : AC → FieldType × Nat × Nat × Nat
  | .inl (t, n, .inl _) => (t, n, 0, 0)
  | .inl (t, n, .inr (.inl _)) => (t, n, 1, 0)
  | .inl (t, n, .inr (.inr _)) => (t, n, 2, 0)
  | .inr (c, l) => (.int, c, 3, l.length)
def shw (w : AW) (a : Nat) : Option (FieldType × Nat × Nat × Nat) := (w[a]?).map shp
theorem shw_set {w : AW} {k a : Nat} {x y : AC} (h : w[k]? = some y) (hs : shp x = shp y) : shw (w.set k x) a = shw w a := by
  unfold shw
  rw [List.getElem?_set]
  by_cases e : k = a
  · subst e
    obtain ⟨hl, he⟩ := List.getElem?_eq_some_iff.mp h
    simp [hl, he, hs]
  · simp [e]
theorem shw_f {w : AW} {f k a : Nat} {v : Value} : shw (fset w f k v) a = shw w a := by
  unfold fset
  split
  · rename_i o he
    exact shw_set he (by obtain ⟨c, l⟩ := o; simp [shp])
  · rfl
theorem shw_a {w : AW} {b a : Nat} {g : Nat → Int32} : shw (aset w b g) a = shw w a := by
  unfold aset
  split
  · rename_i he; exact shw_set he rfl
  · rfl
theorem shw_j {w : AW} {b a : Nat} {g : Nat → Int64} : shw (jset w b g) a = shw w a := by
  unfold jset
  split
  · rename_i he; exact shw_set he rfl
  · rfl
theorem obj_sh {w w' : AW} {f ci : Nat} (h : shw w' f = shw w f) : obj w' f ci = obj w f ci := by
  unfold shw at h
  unfold obj
  cases h1 : w[f]? with
  | none => rw [h1] at h; cases h2 : w'[f]? with
    | none => rfl
    | some y => rw [h2] at h; simp at h
  | some x => rw [h1] at h; cases h2 : w'[f]? with
    | none => rw [h2] at h; simp at h
    | some y =>
      rw [h2] at h
      simp only [Option.map_some, Option.some.injEq] at h
      obtain ⟨t, n, q | q | q⟩ | ⟨c, l⟩ := x <;> obtain ⟨t', n', q' | q' | q'⟩ | ⟨c', l'⟩ := y <;> simp [shp] at h <;> first | rfl | (obtain ⟨h1, h2⟩ := h; simp [h1, h2])
theorem fokk_sh {w w' : AW} {f k : Nat} (h : shw w' f = shw w f) : fokk w' f k = fokk w f k := by
  unfold shw at h
  unfold fokk
  cases h1 : w[f]? with
  | none => rw [h1] at h; cases h2 : w'[f]? with
    | none => rfl
    | some y => rw [h2] at h; simp at h
  | some x => rw [h1] at h; cases h2 : w'[f]? with
    | none => rw [h2] at h; simp at h
    | some y =>
      rw [h2] at h
      simp only [Option.map_some, Option.some.injEq] at h
      obtain ⟨t, n, q | q | q⟩ | ⟨c, l⟩ := x <;> obtain ⟨t', n', q' | q' | q'⟩ | ⟨c', l'⟩ := y <;> simp [shp] at h <;> first | rfl | (obtain ⟨h1, h2⟩ := h; simp [h1, h2])
theorem alen_eq {w : AW} {a : Nat} : alen w a = match shw w a with
    | some (_, n, k, _) => if k = 3 then 0 else n
    | none => 0 := by
  unfold alen shw
  cases h1 : w[a]? with
  | none => rfl
  | some x => obtain ⟨t, n, q | q | q⟩ | ⟨c, l⟩ := x <;> rfl
theorem aok_eq {w : AW} {a : Nat} : aok w a = match shw w a with
    | some (.int, _, 0, _) => true
    | _ => false := by
  unfold aok shw
  cases h1 : w[a]? with
  | none => rfl
  | some x =>
    rcases x with ⟨t, n, q | q | q⟩ | ⟨c, l⟩
    · cases t <;> rfl
    · cases t <;> rfl
    · cases t <;> rfl
    · rfl
theorem zok_eq {w : AW} {a : Nat} : zok w a = match shw w a with
    | some (.boolean, _, 0, _) => true
    | _ => false := by
  unfold zok shw
  cases h1 : w[a]? with
  | none => rfl
  | some x =>
    rcases x with ⟨t, n, q | q | q⟩ | ⟨c, l⟩
    · cases t <;> rfl
    · cases t <;> rfl
    · cases t <;> rfl
    · rfl
theorem jok_eq {w : AW} {a : Nat} : jok w a = match shw w a with
    | some (.long, _, 1, _) => true
    | _ => false := by
  unfold jok shw
  cases h1 : w[a]? with
  | none => rfl
  | some x =>
    rcases x with ⟨t, n, q | q | q⟩ | ⟨c, l⟩
    · cases t <;> rfl
    · cases t <;> rfl
    · cases t <;> rfl
    · rfl
theorem arr_of_aok {w : AW} {a : Nat} (h : aok w a = true) : arr w a = true := by
  obtain ⟨n, g, h1, -⟩ := aok_spec h
  simp [arr, h1]
theorem ob_f {w : AW} {f k f' c : Nat} {v : Value} : obj (fset w f k v) f' c = obj w f' c := obj_sh shw_f
theorem ob_a {w : AW} {a f' c : Nat} {g : Nat → Int32} : obj (aset w a g) f' c = obj w f' c := obj_sh shw_a
theorem ob_j {w : AW} {a f' c : Nat} {g : Nat → Int64} : obj (jset w a g) f' c = obj w f' c := obj_sh shw_j
theorem fk_f {w : AW} {f k f' k' : Nat} {v : Value} : fokk (fset w f k v) f' k' = fokk w f' k' := fokk_sh shw_f
theorem fk_a {w : AW} {a f' k' : Nat} {g : Nat → Int32} : fokk (aset w a g) f' k' = fokk w f' k' := fokk_sh shw_a
theorem fk_j {w : AW} {a f' k' : Nat} {g : Nat → Int64} : fokk (jset w a g) f' k' = fokk w f' k' := fokk_sh shw_j
theorem ao_f {w : AW} {f k a : Nat} {v : Value} : aok (fset w f k v) a = aok w a := by rw [aok_eq, aok_eq, shw_f]
theorem ao_a {w : AW} {b a : Nat} {g : Nat → Int32} : aok (aset w b g) a = aok w a := by rw [aok_eq, aok_eq, shw_a]
theorem ao_j {w : AW} {b a : Nat} {g : Nat → Int64} : aok (jset w b g) a = aok w a := by rw [aok_eq, aok_eq, shw_j]
theorem zo_f {w : AW} {f k a : Nat} {v : Value} : zok (fset w f k v) a = zok w a := by rw [zok_eq, zok_eq, shw_f]
theorem zo_a {w : AW} {b a : Nat} {g : Nat → Int32} : zok (aset w b g) a = zok w a := by rw [zok_eq, zok_eq, shw_a]
theorem zo_j {w : AW} {b a : Nat} {g : Nat → Int64} : zok (jset w b g) a = zok w a := by rw [zok_eq, zok_eq, shw_j]
theorem jo_f {w : AW} {f k a : Nat} {v : Value} : jok (fset w f k v) a = jok w a := by rw [jok_eq, jok_eq, shw_f]
theorem jo_a {w : AW} {b a : Nat} {g : Nat → Int32} : jok (aset w b g) a = jok w a := by rw [jok_eq, jok_eq, shw_a]
theorem jo_j {w : AW} {b a : Nat} {g : Nat → Int64} : jok (jset w b g) a = jok w a := by rw [jok_eq, jok_eq, shw_j]
theorem al_f {w : AW} {f k a : Nat} {v : Value} : alen (fset w f k v) a = alen w a := by rw [alen_eq, alen_eq, shw_f]
theorem al_a {w : AW} {b a : Nat} {g : Nat → Int32} : alen (aset w b g) a = alen w a := by rw [alen_eq, alen_eq, shw_a]
theorem al_j {w : AW} {b a : Nat} {g : Nat → Int64} : alen (jset w b g) a = alen w a := by rw [alen_eq, alen_eq, shw_j]
theorem gs {w : AW} {k a : Nat} {x y : AC} (h : w[k]? = some y) : (w.set k x)[a]? = if k = a then some x else w[a]? := by
  have hl := (List.getElem?_eq_some_iff.mp h).1
  rw [List.getElem?_set]
  by_cases e : k = a
  · rw [if_pos e, if_pos hl, if_pos e]
  · rw [if_neg e, if_neg e]
theorem obj_eq {w : AW} {f ci : Nat} (h : obj w f ci = true) : ∃ o : Nat × List Value, w[f]? = some (.inr o) ∧ o.1 = ci ∧ o.2.length = nf ci := by
  unfold obj at h
  split at h
  · rename_i o he
    simp only [Bool.and_eq_true] at h
    exact ⟨o, he, Nat.eq_of_beq_eq_true h.1, Nat.eq_of_beq_eq_true h.2⟩
  · cases h
theorem fok_of {w : AW} {f ci k : Nat} (h : obj w f ci = true) (hk : k < nf ci) : fok w f ci k = true := by
  obtain ⟨o, h1, h2, h3⟩ := obj_eq h
  unfold fok
  rw [h1]
  simp [h2, h3, hk]
theorem cok_of {w : AW} {f ci : Nat} (h : obj w f ci = true) : cok w f ci = true := by
  obtain ⟨o, h1, h2, h3⟩ := obj_eq h
  unfold cok
  rw [h1]
  simp [h2]
theorem fokk_of {w : AW} {f ci k : Nat} (h : obj w f ci = true) (hk : k < nf ci) : fokk w f k = true := by
  obtain ⟨o, h1, h2, h3⟩ := obj_eq h
  unfold fokk
  rw [h1]
  simp [h3, hk]
theorem fokk_eq {w : AW} {f k : Nat} (h : fokk w f k = true) : ∃ o : Nat × List Value, w[f]? = some (.inr o) ∧ k < o.2.length := by
  unfold fokk at h
  split at h
  · rename_i o he
    exact ⟨o, he, by simpa using h⟩
  · cases h
theorem fset_eq {w : AW} {f k : Nat} {v : Value} {o : Nat × List Value} (h : w[f]? = some (.inr o)) : fset w f k v = w.set f (.inr (o.1, o.2.set k v)) := by unfold fset; rw [h]
theorem fget_eq {w : AW} {f k : Nat} {o : Nat × List Value} (h : w[f]? = some (.inr o)) : fget w f k = o.2.getD k .null := by unfold fget; rw [h]
theorem fget_at {w w' : AW} {f k : Nat} (h : w'[f]? = w[f]?) : fget w' f k = fget w f k := by unfold fget; rw [h]
theorem aget_at {w w' : AW} {a : Nat} (h : w'[a]? = w[a]?) : aget w' a = aget w a := by unfold aget; rw [h]
theorem jget_at {w w' : AW} {a : Nat} (h : w'[a]? = w[a]?) : jget w' a = jget w a := by unfold jget; rw [h]
theorem aset_eq {w : AW} {a n : Nat} {t : FieldType} {g g0 : Nat → Int32} (h : w[a]? = some (.inl (t, n, .inl g0))) : aset w a g = w.set a (.inl (t, n, .inl g)) := by unfold aset; rw [h]
theorem jset_eq {w : AW} {a n : Nat} {t : FieldType} {g g0 : Nat → Int64} (h : w[a]? = some (.inl (t, n, .inr (.inl g0)))) : jset w a g = w.set a (.inl (t, n, .inr (.inl g))) := by unfold jset; rw [h]
/-- a write leaves the world as it was, or changes one cell of the kind -/
theorem fset_or {w : AW} {f k : Nat} {v : Value} : fset w f k v = w ∨ ∃ o : Nat × List Value, w[f]? = some (.inr o) ∧ fset w f k v = w.set f (.inr (o.1, o.2.set k v)) := by
  unfold fset
  split
  · rename_i o he; exact Or.inr ⟨o, he, rfl⟩
  · exact Or.inl rfl
theorem aset_or {w : AW} {a : Nat} {g : Nat → Int32} : aset w a g = w ∨ ∃ (t : FieldType) (n : Nat) (g0 : Nat → Int32), w[a]? = some (.inl (t, n, .inl g0)) ∧ aset w a g = w.set a (.inl (t, n, .inl g)) := by
  unfold aset
  split
  · rename_i he; exact Or.inr ⟨_, _, _, he, rfl⟩
  · exact Or.inl rfl
theorem jset_or {w : AW} {a : Nat} {g : Nat → Int64} : jset w a g = w ∨ ∃ (t : FieldType) (n : Nat) (g0 : Nat → Int64), w[a]? = some (.inl (t, n, .inr (.inl g0))) ∧ jset w a g = w.set a (.inl (t, n, .inr (.inl g))) := by
  unfold jset
  split
  · rename_i he; exact Or.inr ⟨_, _, _, he, rfl⟩
  · exact Or.inl rfl
theorem fg_s {w : AW} {f k : Nat} {v : Value} (h : fokk w f k = true) : fget (fset w f k v) f k = v := by
  obtain ⟨o, he, hk⟩ := fokk_eq h
  rw [fset_eq he, fget_eq (o := (o.1, o.2.set k v)) (by rw [gs he, if_pos rfl])]
  simp [List.getD_eq_getElem?_getD, hk]
theorem fg_n {w : AW} {f k f' k' : Nat} {v : Value} (h : ¬ (f = f' ∧ k = k')) : fget (fset w f k v) f' k' = fget w f' k' := by
  rcases fset_or (w := w) (f := f) (k := k) (v := v) with e | ⟨o, he, e⟩
  · rw [e]
  · rw [e]
    by_cases hf : f = f'
    · subst hf
      have hk : ¬ k = k' := fun q => h ⟨rfl, q⟩
      rw [fget_eq (o := (o.1, o.2.set k v)) (by rw [gs he, if_pos rfl]), fget_eq he]
      simp [List.getD_eq_getElem?_getD, List.getElem?_set, hk]
    · exact fget_at (by rw [gs he, if_neg hf])
theorem fg_a {w : AW} {a f k : Nat} {g : Nat → Int32} : fget (aset w a g) f k = fget w f k := by
  rcases aset_or (w := w) (a := a) (g := g) with e | ⟨t, n, g0, he, e⟩
  · rw [e]
  · rw [e]
    by_cases hf : a = f
    · subst hf
      unfold fget
      rw [gs he, if_pos rfl, he]
    · exact fget_at (by rw [gs he, if_neg hf])
theorem fg_j {w : AW} {a f k : Nat} {g : Nat → Int64} : fget (jset w a g) f k = fget w f k := by
  rcases jset_or (w := w) (a := a) (g := g) with e | ⟨t, n, g0, he, e⟩
  · rw [e]
  · rw [e]
    by_cases hf : a = f
    · subst hf
      unfold fget
      rw [gs he, if_pos rfl, he]
    · exact fget_at (by rw [gs he, if_neg hf])
theorem ag_f {w : AW} {f k a : Nat} {v : Value} : aget (fset w f k v) a = aget w a := by
  rcases fset_or (w := w) (f := f) (k := k) (v := v) with e | ⟨o, he, e⟩
  · rw [e]
  · rw [e]
    by_cases hf : f = a
    · subst hf
      unfold aget
      rw [gs he, if_pos rfl, he]
    · exact aget_at (by rw [gs he, if_neg hf])
theorem ag_j {w : AW} {b a : Nat} {g : Nat → Int64} : aget (jset w b g) a = aget w a := by
  rcases jset_or (w := w) (a := b) (g := g) with e | ⟨t, n, g0, he, e⟩
  · rw [e]
  · rw [e]
    by_cases hf : b = a
    · subst hf
      unfold aget
      rw [gs he, if_pos rfl, he]
    · exact aget_at (by rw [gs he, if_neg hf])
theorem ag_n {w : AW} {b a : Nat} {g : Nat → Int32} (h : ¬ b = a) : aget (aset w b g) a = aget w a := by
  rcases aset_or (w := w) (a := b) (g := g) with e | ⟨t, n, g0, he, e⟩
  · rw [e]
  · rw [e]
    exact aget_at (by rw [gs he, if_neg h])
theorem ag_s {w : AW} {a : Nat} {g : Nat → Int32} (h : aok w a = true) : aget (aset w a g) a = g := by
  obtain ⟨n, g0, h1, -, -, h4⟩ := aok_spec h
  rw [h4]
  unfold aget
  rw [gs h1, if_pos rfl]
theorem ag_z {w : AW} {a : Nat} {g : Nat → Int32} (h : zok w a = true) : aget (aset w a g) a = g := by
  obtain ⟨n, g0, h1, -, -, h4⟩ := zok_spec h
  rw [h4]
  unfold aget
  rw [gs h1, if_pos rfl]
theorem jg_f {w : AW} {f k a : Nat} {v : Value} : jget (fset w f k v) a = jget w a := by
  rcases fset_or (w := w) (f := f) (k := k) (v := v) with e | ⟨o, he, e⟩
  · rw [e]
  · rw [e]
    by_cases hf : f = a
    · subst hf
      unfold jget
      rw [gs he, if_pos rfl, he]
    · exact jget_at (by rw [gs he, if_neg hf])
theorem jg_a {w : AW} {b a : Nat} {g : Nat → Int32} : jget (aset w b g) a = jget w a := by
  rcases aset_or (w := w) (a := b) (g := g) with e | ⟨t, n, g0, he, e⟩
  · rw [e]
  · rw [e]
    by_cases hf : b = a
    · subst hf
      unfold jget
      rw [gs he, if_pos rfl, he]
    · exact jget_at (by rw [gs he, if_neg hf])
theorem jg_n {w : AW} {b a : Nat} {g : Nat → Int64} (h : ¬ b = a) : jget (jset w b g) a = jget w a := by
  rcases jset_or (w := w) (a := b) (g := g) with e | ⟨t, n, g0, he, e⟩
  · rw [e]
  · rw [e]
    exact jget_at (by rw [gs he, if_neg h])
theorem jg_s {w : AW} {a : Nat} {g : Nat → Int64} (h : jok w a = true) : jget (jset w a g) a = g := by
  obtain ⟨n, g0, h1, -, -, h4⟩ := jok_spec h
  rw [h4]
  unfold jget
  rw [gs h1, if_pos rfl]
theorem fs_s {w : AW} {f k : Nat} {v v' : Value} : fset (fset w f k v) f k v' = fset w f k v' := by
  rcases fset_or (w := w) (f := f) (k := k) (v := v) with e | ⟨o, he, e⟩
  · rw [e]
  · rw [e, fset_eq he, fset_eq (o := (o.1, o.2.set k v)) (by rw [gs he, if_pos rfl])]
    simp only [List.set_set]
theorem as_s {w : AW} {a : Nat} {g g' : Nat → Int32} : aset (aset w a g) a g' = aset w a g' := by
  rcases aset_or (w := w) (a := a) (g := g) with e | ⟨t, n, g0, he, e⟩
  · rw [e]
  · rw [e, aset_eq he, aset_eq (g0 := g) (by rw [gs he, if_pos rfl])]
    simp only [List.set_set]
theorem js_s {w : AW} {a : Nat} {g g' : Nat → Int64} : jset (jset w a g) a g' = jset w a g' := by
  rcases jset_or (w := w) (a := a) (g := g) with e | ⟨t, n, g0, he, e⟩
  · rw [e]
  · rw [e, jset_eq he, jset_eq (g0 := g) (by rw [gs he, if_pos rfl])]
    simp only [List.set_set]
theorem set_same {w : AW} {k : Nat} {x : AC} (h : w[k]? = some x) : w.set k x = w := by
  apply List.ext_getElem?
  intro i
  rw [gs h]
  by_cases e : k = i
  · subst e; rw [if_pos rfl, h]
  · rw [if_neg e]
theorem fset_id {w : AW} {f k : Nat} {v : Value} (h : fget w f k = v) (hk : fokk w f k = true) : fset w f k v = w := by
  obtain ⟨o, he, hk⟩ := fokk_eq hk
  rw [fset_eq he]
  rw [fget_eq he, List.getD_eq_getElem?_getD, List.getElem?_eq_getElem hk, Option.getD_some] at h
  subst h
  rw [List.set_getElem_self]
  exact set_same he
theorem aset_id {w : AW} {a : Nat} {g : Nat → Int32} (h : aget w a = g) : aset w a g = w := by
  rcases aset_or (w := w) (a := a) (g := g) with e | ⟨t, n, g0, he, e⟩
  · exact e
  · rw [e]
    have h1 : aget w a = g0 := by unfold aget; rw [he]
    rw [h1] at h
    subst h
    exact set_same he
theorem inB_nI {n N : Nat} (h : n < N) (hN : N < 2 ^ 31) : inB (nI n) N = true := by
  have h1 := nI_toInt (n := n) (by omega)
  simp only [inB, h1, Bool.and_eq_true, decide_eq_true_eq]
  omega
