/-! What holds of class and reference together, ahead of every call -/
def rng (x : Int32) (n : Nat) : Prop := ∃ m : Nat, m ≤ n ∧ x = nI m
def famIn (w : AW) (F : Nat) : Prop := (∀ i, i < 8 → rng (aget w (F + 1) i) 99 ∧ rng (aget w (F + 2) i) 99 ∧ rng (aget w (F + 3) i) 1023 ∧ rng (aget w (F + 4) i) 255) ∧ rng (fI w F 4) 255 ∧ (fI w F 5 = -6 ∨ ∃ j, j < 8 ∧ fI w F 5 = nI j ∧ bq (fI w F 4) j = true)
def simF (w : AW) : Prop := (∀ i, i < 8 → aget w 2 i = aget w 65 i ∧ aget w 3 i = aget w 66 i ∧ aget w 4 i = aget w 67 i ∧ aget w 5 i = aget w 68 i) ∧ fI w 1 4 = fI w 64 0 ∧ fI w 1 5 = fI w 64 5 ∧ fI w 1 6 = fI w 64 6
def tasksIn (w : AW) (T : Nat) : Prop := ∀ i, i < 6 → rng (aget w (T + 1) i) 7 ∧ rng (aget w (T + 2) i) 99 ∧ rng (aget w (T + 3) i) 99
def simT (w : AW) : Prop := ∀ i, i < 6 → aget w 20 i = aget w 69 i ∧ aget w 21 i = aget w 70 i ∧ aget w 22 i = aget w 71 i
def sightsIn (w : AW) (S : Nat) : Prop := (∀ i, i < 8 → rng (aget w (S + 1) i) 60 ∧ rng (aget w (S + 2) i) 7 ∧ rng (aget w (S + 3) i) 1) ∧ rng (fI w S 3) 8
def simS (w : AW) : Prop := (∀ i, i < 8 → aget w 24 i = aget w 72 i ∧ aget w 25 i = aget w 73 i ∧ aget w 26 i = aget w 74 i) ∧ fI w 23 3 = fI w 64 13
def simP (w : AW) : Prop := (∀ i, i < 60 → aget w 12 i = aget w 75 i) ∧ fI w 11 1 = fI w 64 15 ∧ rng (fI w 11 1) 60
/-- an image: object Im of the class, place q of the reference's rows -/
def simI (w : AW) (Im q : Nat) : Prop := fI w Im 3 = aget w 88 q ∧ rng (fI w Im 3) 1 ∧ famIn w (Im + 1) ∧ tasksIn w (Im + 6) ∧ sightsIn w (Im + 10) ∧ (fI w Im 3 = 1 →
  (∀ i, i < 8 → aget w (Im + 2) i = aget w 87 (90 * q + 4 + i) ∧ aget w (Im + 3) i = aget w 87 (90 * q + 12 + i) ∧ aget w (Im + 4) i = aget w 87 (90 * q + 20 + i) ∧ aget w (Im + 5) i = aget w 87 (90 * q + 28 + i) ∧ aget w (Im + 11) i = aget w 87 (90 * q + 54 + i) ∧ aget w (Im + 12) i = aget w 87 (90 * q + 62 + i) ∧ aget w (Im + 13) i = aget w 87 (90 * q + 70 + i))
  ∧ (∀ i, i < 6 → aget w (Im + 7) i = aget w 87 (90 * q + 36 + i) ∧ aget w (Im + 8) i = aget w 87 (90 * q + 42 + i) ∧ aget w (Im + 9) i = aget w 87 (90 * q + 48 + i))
  ∧ fI w (Im + 1) 4 = aget w 87 (90 * q) ∧ fI w (Im + 1) 5 = aget w 87 (90 * q + 1) ∧ fI w (Im + 1) 6 = aget w 87 (90 * q + 2) ∧ fI w (Im + 10) 3 = aget w 87 (90 * q + 3))
def SI (w : AW) : Prop := OK w ∧ famIn w 1 ∧ simF w ∧ tasksIn w 19 ∧ simT w ∧ sightsIn w 23 ∧ simS w ∧ simP w ∧ simI w 36 0 ∧ simI w 50 1
def relA : List Nat := [2, 3, 4, 5, 65, 66, 67, 68, 20, 21, 22, 69, 70, 71, 24, 25, 26, 72, 73, 74, 12, 75, 38, 39, 40, 41, 43, 44, 45, 47, 48, 49, 52, 53, 54, 55, 57, 58, 59, 61, 62, 63, 87, 88]
def relF : List (Nat × Nat) := [(1, 4), (1, 5), (1, 6), (64, 0), (64, 5), (64, 6), (64, 13), (64, 15), (23, 3), (11, 1), (37, 4), (37, 5), (37, 6), (46, 3), (51, 4), (51, 5), (51, 6), (60, 3), (36, 3), (50, 3)]
/-- what SI reads is the same -/
def same (w w' : AW) : Prop := (∀ a ∈ relA, aget w' a = aget w a) ∧ ∀ q ∈ relF, fI w' q.1 q.2 = fI w q.1 q.2
theorem same_rf {w : AW} : same w w := ⟨fun _ _ => rfl, fun _ _ => rfl⟩
theorem same_tr {a b c : AW} (h : same a b) (h' : same b c) : same a c := ⟨fun x hx => (h'.1 x hx).trans (h.1 x hx), fun x hx => (h'.2 x hx).trans (h.2 x hx)⟩
theorem same_a {w : AW} {a : Nat} {g : Nat → Int32} (h : a ∉ relA) : same w (aset w a g) := ⟨fun x hx => ag_n (fun e => h (e ▸ hx)), fun q hq => fi_a⟩
theorem same_j {w : AW} {a : Nat} {g : Nat → Int64} : same w (jset w a g) := ⟨fun x hx => ag_j, fun q hq => fi_j⟩
theorem same_f {w : AW} {f k : Nat} {v : Value} (h : (f, k) ∉ relF) : same w (fset w f k v) := ⟨fun x hx => ag_f, fun q hq => fi_n (fun e => h (by rw [e.1, e.2]; exact hq))⟩
theorem SI_same {w w' : AW} (h : SI w) (ok : OK w') (hs : same w w') : SI w' := by
  obtain ⟨ha, hf⟩ := hs
  have A : ∀ a, a ∈ relA → aget w' a = aget w a := ha
  have F : ∀ f k, (f, k) ∈ relF → fI w' f k = fI w f k := fun f k hk => hf (f, k) hk
  obtain ⟨h0, h1, h2, h3, h4, h5, h6, h7, h8, h9⟩ := h
  refine ⟨ok, ?_, ?_, ?_, ?_, ?_, ?_, ?_, ?_, ?_⟩
  · unfold famIn at h1 ⊢
    rw [A (1 + 1) (by decide), A (1 + 2) (by decide), A (1 + 3) (by decide), A (1 + 4) (by decide), F 1 4 (by decide), F 1 5 (by decide)]
    exact h1
  · unfold simF at h2 ⊢
    rw [A 2 (by decide), A 3 (by decide), A 4 (by decide), A 5 (by decide), A 65 (by decide), A 66 (by decide), A 67 (by decide), A 68 (by decide), F 1 4 (by decide), F 1 5 (by decide), F 1 6 (by decide), F 64 0 (by decide), F 64 5 (by decide), F 64 6 (by decide)]
    exact h2
  · unfold tasksIn at h3 ⊢
    rw [A (19 + 1) (by decide), A (19 + 2) (by decide), A (19 + 3) (by decide)]
    exact h3
  · unfold simT at h4 ⊢
    rw [A 20 (by decide), A 21 (by decide), A 22 (by decide), A 69 (by decide), A 70 (by decide), A 71 (by decide)]
    exact h4
  · unfold sightsIn at h5 ⊢
    rw [A (23 + 1) (by decide), A (23 + 2) (by decide), A (23 + 3) (by decide), F 23 3 (by decide)]
    exact h5
  · unfold simS at h6 ⊢
    rw [A 24 (by decide), A 25 (by decide), A 26 (by decide), A 72 (by decide), A 73 (by decide), A 74 (by decide), F 23 3 (by decide), F 64 13 (by decide)]
    exact h6
  · unfold simP at h7 ⊢
    rw [A 12 (by decide), A 75 (by decide), F 11 1 (by decide), F 64 15 (by decide)]
    exact h7
  · unfold simI famIn tasksIn sightsIn at h8 ⊢
    rw [A 88 (by decide), A 87 (by decide), A (36 + 1 + 1) (by decide), A (36 + 1 + 2) (by decide), A (36 + 1 + 3) (by decide), A (36 + 1 + 4) (by decide), A (36 + 6 + 1) (by decide), A (36 + 6 + 2) (by decide), A (36 + 6 + 3) (by decide), A (36 + 10 + 1) (by decide), A (36 + 10 + 2) (by decide), A (36 + 10 + 3) (by decide), F 36 3 (by decide), F (36 + 1) 4 (by decide), F (36 + 1) 5 (by decide), F (36 + 1) 6 (by decide), F (36 + 10) 3 (by decide)]
    exact h8
  · unfold simI famIn tasksIn sightsIn at h9 ⊢
    rw [A 88 (by decide), A 87 (by decide), A (50 + 1 + 1) (by decide), A (50 + 1 + 2) (by decide), A (50 + 1 + 3) (by decide), A (50 + 1 + 4) (by decide), A (50 + 6 + 1) (by decide), A (50 + 6 + 2) (by decide), A (50 + 6 + 3) (by decide), A (50 + 10 + 1) (by decide), A (50 + 10 + 2) (by decide), A (50 + 10 + 3) (by decide), F 50 3 (by decide), F (50 + 1) 4 (by decide), F (50 + 1) 5 (by decide), F (50 + 1) 6 (by decide), F (50 + 10) 3 (by decide)]
    exact h9
theorem rng_in {x : Int32} {n : Nat} (h : rng x n) (hn : n < 2 ^ 31) : 0 ≤ x.toInt ∧ x.toInt ≤ n := by
  obtain ⟨m, h1, rfl⟩ := h
  rw [nI_toInt (by omega)]
  omega
theorem rng_of {x : Int32} {n : Nat} {N : Int32} (hN : N.toInt = n) (h0 : 0 ≤ x) (h1 : x ≤ N) : rng x n := by
  obtain ⟨j, h2, h3⟩ := nI_of2 hN (i32_nlt.mpr h0) h1
  exact ⟨j, h2, h3⟩
theorem ok_fam {w : AW} (h : OK w) {F : Nat} (hF : F = 1 ∨ F = 6 ∨ F = 14 ∨ F = 37 ∨ F = 51) : famOK w F := by
  rcases hF with rfl | rfl | rfl | rfl | rfl
  · exact ⟨oo1 h, og1_0 h, og1_1 h, og1_2 h, og1_3 h, og1_4 h, og1_5 h, og1_6 h, oa2 h, oa3 h, oa4 h, oa5 h, ol2 h, ol3 h, ol4 h, ol5 h⟩
  · exact ⟨oo6 h, og6_0 h, og6_1 h, og6_2 h, og6_3 h, og6_4 h, og6_5 h, og6_6 h, oa7 h, oa8 h, oa9 h, oa10 h, ol7 h, ol8 h, ol9 h, ol10 h⟩
  · exact ⟨oo14 h, og14_0 h, og14_1 h, og14_2 h, og14_3 h, og14_4 h, og14_5 h, og14_6 h, oa15 h, oa16 h, oa17 h, oa18 h, ol15 h, ol16 h, ol17 h, ol18 h⟩
  · exact ⟨oo37 h, og37_0 h, og37_1 h, og37_2 h, og37_3 h, og37_4 h, og37_5 h, og37_6 h, oa38 h, oa39 h, oa40 h, oa41 h, ol38 h, ol39 h, ol40 h, ol41 h⟩
  · exact ⟨oo51 h, og51_0 h, og51_1 h, og51_2 h, og51_3 h, og51_4 h, og51_5 h, og51_6 h, oa52 h, oa53 h, oa54 h, oa55 h, ol52 h, ol53 h, ol54 h, ol55 h⟩
theorem ok_f1 {w : AW} (h : OK w) : famOK w 1 := ok_fam h (Or.inl rfl)
/-- a call of both: the same answer, and what holds, holds again -/
def both (X : Scr) (kT kM : Nat) (lT lM : List Value) (w : AW) : Prop := ∃ (v : Value) (w1 w2 : AW), Z X kT 0 lT [] w = some (some v, w1) ∧ Z X kM 0 lM [] w1 = some (some v, w2) ∧ SI w2
/-- oldest -/
theorem op_oldest {X : Scr} {w : AW} (h : SI w) : both X 50 116 [.ref 0] [.ref 64] w := by
  obtain ⟨h0, h1, h2, -⟩ := id h
  refine ⟨.int (oldC (aget w 2) (fI w 1 4) 8 (-6) (-1)), w, w, ?_, ?_, h⟩
  · simp only [z50_0, z50_1, z50_4, z50_5, z50_8, z50_11, z50_14, Option.bind_some, Option.toList_some, Option.toList_none, List.cons_append, List.nil_append, sc_i, sc_r, sc_l, sc_u, sc_s, List.length_nil, List.length_cons, Nat.reduceAdd, Nat.reduceLeDiff, Nat.zero_le, le4_0, le4_1, le4_2, le4_3, rz0, rz1, rzt, eq_self, oc0 h0, of0_0 h0, og0_0 h0, of0_1 h0, og0_1 h0, of0_2 h0, og0_2 h0, of0_3 h0, og0_3 h0, of0_4 h0, og0_4 h0, of0_5 h0, og0_5 h0, of0_6 h0, og0_6 h0, of0_7 h0, og0_7 h0, of0_8 h0, og0_8 h0, of0_9 h0, og0_9 h0, of0_10 h0, og0_10 h0, oc1 h0, of1_0 h0, og1_0 h0, of1_1 h0, og1_1 h0, of1_2 h0, og1_2 h0, of1_3 h0, og1_3 h0, of1_4 h0, og1_4 h0, ok1_4 h0, of1_5 h0, og1_5 h0, ok1_5 h0, of1_6 h0, og1_6 h0, ok1_6 h0, x_old (ok_f1 h0)]
  · rw [x_moldest h0, old_eq (fun i hi => (rng_in (h1.1 i hi).1 (by decide)).1) (fun i hi => (h2.1 i hi).1.symm), h2.2.1]
