/-! the two constructors, run: an evaluator that never looks at the script -/
def cG0 : Scr := (0, fun _ => 0)
def cGd (e : kO) (S : List Value) : Bool := match e.1 with
  | .arraylength => (match S with | .retAddr _ :: _ => false | _ => true)
  | .iaload => (match S with | .int _ :: .retAddr _ :: _ => false | _ => true)
  | _ => true
theorem stepI_ind {X : Scr} {mi pc : Nat} {e : kO} {L S : List Value} {w : AW} (h : cGd e S = true) : stepI X mi pc e L S w = stepI cG0 mi pc e L S w := by
  obtain ⟨i, r⟩ := e
  cases i
  case iaload =>
    match S, h with
    | [], _ => rfl
    | [v], _ => cases v <;> rfl
    | v :: u :: S, h =>
      cases v <;> first | rfl | (cases u <;> first | rfl | (simp [cGd] at h))
  case arraylength =>
    match S, h with
    | [], _ => rfl
    | v :: S, h => cases v <;> first | rfl | (simp [cGd] at h)
  all_goals rfl
def evG : Nat → Nat → Nat → List Value → List Value → AW → Option (Option Value × AW)
  | 0, _, _, _, _, _ => none
  | n + 1, mi, pc, L, S, w => match kI mi pc with
    | none => none
    | some e => match cGd e S with
      | false => none
      | true => match stepI cG0 mi pc e L S w with
        | some c => evG n mi c.1 c.2.1 c.2.2.1 c.2.2.2
        | none => match callE e S w with
          | some (some (y, As), S1, w1) => match evG n y 0 (entryL (kM y).2.2.1 As) [] w1 with
            | some q => evG n mi (pc + 3) L (q.1.toList ++ S1) q.2
            | none => none
          | some (none, S1, w1) => evG n mi (pc + 3) L S1 w1
          | none => match retI mi e S with
            | some r => some (r, w)
            | none => none
theorem evG_ev {X : Scr} : ∀ (n mi pc : Nat) (L S : List Value) (w : AW) (q : Option Value × AW), evG n mi pc L S w = some q → ev X n mi pc L S w = some q := by
  intro n
  induction n with
  | zero => intro mi pc L S w q h; simp [evG] at h
  | succ n ih =>
    intro mi pc L S w q h
    rw [evG] at h
    rw [ev]
    cases hk : kI mi pc with
    | none => rw [hk] at h; exact h
    | some e =>
      rw [hk] at h
      dsimp only at h ⊢
      cases hg : cGd e S with
      | false => rw [hg] at h; simp at h
      | true =>
        rw [hg] at h
        dsimp only at h
        rw [stepI_ind hg]
        cases hs : stepI cG0 mi pc e L S w with
        | some c =>
          rw [hs] at h
          exact ih _ _ _ _ _ _ h
        | none =>
          rw [hs] at h
          dsimp only at h ⊢
          cases hc : callE e S w with
          | none =>
            rw [hc] at h
            exact h
          | some c =>
            obtain ⟨o, S1, w1⟩ := c
            rw [hc] at h
            cases o with
            | none => exact ih _ _ _ _ _ _ h
            | some ya =>
              obtain ⟨y, As⟩ := ya
              dsimp only at h ⊢
              cases hy : evG n y 0 (entryL (kM y).2.2.1 As) [] w1 with
              | none => rw [hy] at h; simp at h
              | some r =>
                rw [hy] at h
                rw [ih _ _ _ _ _ _ hy]
                exact ih _ _ _ _ _ _ h
def oT : Option (Option Value × AW) := evG 400 0 0 [.ref 0] [] [.inr (8, (kD 8).2.2)]
def oM : Option (Option Value × AW) := match oT with
  | some q => evG 400 95 0 [.ref 64, uns] [] (q.2 ++ [.inr (9, (kD 9).2.2)])
  | none => none
def rgB (x : Int32) (n : Nat) : Bool := decide (0 ≤ x.toInt) && decide (x.toInt ≤ n)
theorem rg_of {x : Int32} {n : Nat} (hn : n < 2 ^ 31) (h : rgB x n = true) : rng x n := by
  unfold rgB at h
  rw [Bool.and_eq_true, decide_eq_true_iff, decide_eq_true_iff] at h
  exact rng_of (N := nI n) (nI_toInt hn) (Int32.le_iff_toInt_le.mpr (by rw [show (0 : Int32).toInt = 0 from rfl]; exact h.1)) (Int32.le_iff_toInt_le.mpr (by rw [nI_toInt hn]; exact h.2))
def isR (v : Value) (x : Nat) : Bool := match v with
  | .ref y => Nat.beq y x
  | _ => false
theorem isR_of {v : Value} {x : Nat} (h : isR v x = true) : v = .ref x := by
  cases v with
  | ref y => exact congrArg Value.ref (Nat.eq_of_beq_eq_true h)
  | _ => simp [isR] at h
def isI (v : Value) : Bool := match v with
  | .int _ => true
  | _ => false
theorem isI_of {w : AW} {f k : Nat} (h : isI (fget w f k) = true) : fget w f k = .int (fI w f k) := by
  unfold fI
  cases hv : fget w f k with
  | int x => rfl
  | _ => rw [hv] at h; simp [isI] at h
def ckO (w : AW) : Bool := Nat.beq w.length 89 && (Nat.beq (tot w) 2870 && ((List.range 89).all (fun k => decide (shw w k = shT[k]?)) && (refT.all (fun q => isR (fget w q.1 q.2.1) q.2.2) && intT.all (fun q => isI (fget w q.1 q.2)))))
theorem ckO_of {w : AW} (h : ckO w = true) : OK w := by
  unfold ckO at h
  rw [Bool.and_eq_true, Bool.and_eq_true, Bool.and_eq_true, Bool.and_eq_true, List.all_eq_true, List.all_eq_true, List.all_eq_true] at h
  obtain ⟨h1, h2, h3, h4, h5⟩ := h
  exact ⟨Nat.eq_of_beq_eq_true h1, Nat.eq_of_beq_eq_true h2, fun k hk => of_decide_eq_true (h3 k (List.mem_range.mpr hk)), fun q hq => isR_of (h4 q hq), fun q hq => isI_of (h5 q hq)⟩
def ckF (w : AW) (F : Nat) : Bool := (List.range 8).all (fun i => rgB (aget w (F + 1) i) 99 && (rgB (aget w (F + 2) i) 99 && (rgB (aget w (F + 3) i) 1023 && rgB (aget w (F + 4) i) 255))) && (rgB (fI w F 4) 255 && (decide (fI w F 5 = nI 0) && bq (fI w F 4) 0))
theorem ckF_of {w : AW} {F : Nat} (h : ckF w F = true) : famIn w F := by
  unfold ckF at h
  rw [Bool.and_eq_true, Bool.and_eq_true, Bool.and_eq_true, List.all_eq_true] at h
  obtain ⟨h1, h2, h3, h4⟩ := h
  refine ⟨fun i hi => ?_, rg_of (by decide) h2, Or.inr ⟨0, by decide, of_decide_eq_true h3, h4⟩⟩
  have := h1 i (List.mem_range.mpr hi)
  rw [Bool.and_eq_true, Bool.and_eq_true, Bool.and_eq_true] at this
  exact ⟨rg_of (by decide) this.1, rg_of (by decide) this.2.1, rg_of (by decide) this.2.2.1, rg_of (by decide) this.2.2.2⟩
def ckT (w : AW) (T : Nat) : Bool := (List.range 6).all (fun i => rgB (aget w (T + 1) i) 7 && (rgB (aget w (T + 2) i) 99 && rgB (aget w (T + 3) i) 99))
theorem ckT_of {w : AW} {T : Nat} (h : ckT w T = true) : tasksIn w T := by
  unfold ckT at h
  rw [List.all_eq_true] at h
  intro i hi
  have := h i (List.mem_range.mpr hi)
  rw [Bool.and_eq_true, Bool.and_eq_true] at this
  exact ⟨rg_of (by decide) this.1, rg_of (by decide) this.2.1, rg_of (by decide) this.2.2⟩
def ckS (w : AW) (S : Nat) : Bool := (List.range 8).all (fun i => rgB (aget w (S + 1) i) 60 && (rgB (aget w (S + 2) i) 7 && rgB (aget w (S + 3) i) 1)) && rgB (fI w S 3) 8
theorem ckS_of {w : AW} {S : Nat} (h : ckS w S = true) : sightsIn w S := by
  unfold ckS at h
  rw [Bool.and_eq_true, List.all_eq_true] at h
  refine ⟨fun i hi => ?_, rg_of (by decide) h.2⟩
  have := h.1 i (List.mem_range.mpr hi)
  rw [Bool.and_eq_true, Bool.and_eq_true] at this
  exact ⟨rg_of (by decide) this.1, rg_of (by decide) this.2.1, rg_of (by decide) this.2.2⟩
def ckI (w : AW) (Im q : Nat) : Bool := decide (fI w Im 3 = aget w 88 q) && (decide (fI w Im 3 = 0) && (ckF w (Im + 1) && (ckT w (Im + 6) && ckS w (Im + 10))))
theorem ckI_of {w : AW} {Im q : Nat} (h : ckI w Im q = true) : simI w Im q := by
  unfold ckI at h
  rw [Bool.and_eq_true, Bool.and_eq_true, Bool.and_eq_true, Bool.and_eq_true] at h
  obtain ⟨h1, h2, h3, h4, h5⟩ := h
  have h2 := of_decide_eq_true h2
  refine ⟨of_decide_eq_true h1, by rw [h2]; exact ⟨0, by decide, rfl⟩, ckF_of h3, ckT_of h4, ckS_of h5, fun z => ?_⟩
  rw [h2] at z
  exact absurd z (by decide)
def ckE (w : AW) : Bool := (List.range 8).all (fun i => decide (aget w 2 i = aget w 65 i) && (decide (aget w 3 i = aget w 66 i) && (decide (aget w 4 i = aget w 67 i) && decide (aget w 5 i = aget w 68 i)))) && (decide (fI w 1 4 = fI w 64 0) && (decide (fI w 1 5 = fI w 64 5) && (decide (fI w 1 6 = fI w 64 6) && ((List.range 6).all (fun i => decide (aget w 20 i = aget w 69 i) && (decide (aget w 21 i = aget w 70 i) && decide (aget w 22 i = aget w 71 i))) && ((List.range 8).all (fun i => decide (aget w 24 i = aget w 72 i) && (decide (aget w 25 i = aget w 73 i) && decide (aget w 26 i = aget w 74 i))) && (decide (fI w 23 3 = fI w 64 13) && ((List.range 60).all (fun i => decide (aget w 12 i = aget w 75 i)) && (decide (fI w 11 1 = fI w 64 15) && rgB (fI w 11 1) 60))))))))
def ckZ (w : AW) : Bool := ckO w && (ckF w 1 && (ckT w 19 && (ckS w 23 && (ckI w 36 0 && (ckI w 50 1 && ckE w)))))
theorem ckZ_of {w : AW} (h : ckZ w = true) : SI w := by
  unfold ckZ ckE at h
  simp only [Bool.and_eq_true, List.all_eq_true, List.mem_range, decide_eq_true_iff] at h
  obtain ⟨h1, h2, h3, h4, h5, h6, e1, e2, e3, e4, e5, e6, e7, e8, e9, e10⟩ := h
  exact ⟨ckO_of h1, ckF_of h2, ⟨fun i hi => ⟨(e1 i hi).1, (e1 i hi).2.1, (e1 i hi).2.2.1, (e1 i hi).2.2.2⟩, e2, e3, e4⟩, ckT_of h3, fun i hi => ⟨(e5 i hi).1, (e5 i hi).2.1, (e5 i hi).2.2⟩, ckS_of h4, ⟨fun i hi => ⟨(e6 i hi).1, (e6 i hi).2.1, (e6 i hi).2.2⟩, e7⟩, ⟨fun i hi => e8 i hi, e9, rg_of (by decide) e10⟩, ckI_of h5, ckI_of h6⟩
def ckT0 : Bool := match oT with
  | some (none, w) => Nat.beq w.length 64
  | _ => false
def ckM0 : Bool := match oM with
  | some (none, w) => ckZ w
  | _ => false
theorem ckT0_t : ckT0 = true := by decide +kernel
theorem ckM0_t : ckM0 = true := by decide +kernel
theorem x_start {X : Scr} : ∃ w, SI w ∧ Z X 168 0 [.retAddr 0, uns, uns, uns] [] [] = Z X 168 18 [.retAddr 0, .ref 0, .ref 64, .int (nI 0)] [] w := by
  have h1 := ckT0_t
  have h2 := ckM0_t
  unfold ckT0 at h1
  unfold ckM0 oM at h2
  cases ht : oT with
  | none => rw [ht] at h1; cases h1
  | some q =>
    obtain ⟨r, w1⟩ := q
    rw [ht] at h1 h2
    cases r with
    | some v => cases h1
    | none =>
      have hl : w1.length = 64 := Nat.eq_of_beq_eq_true h1
      dsimp only at h2
      cases hm : evG 400 95 0 [.ref 64, uns] [] (w1 ++ [.inr (9, (kD 9).2.2)]) with
      | none => rw [hm] at h2; cases h2
      | some q =>
        obtain ⟨r, w2⟩ := q
        rw [hm] at h2
        cases r with
        | some v => cases h2
        | none =>
          have eT : Z X 0 0 [.ref 0] [] [.inr (8, (kD 8).2.2)] = some (none, w1) := Z_iff.mpr ⟨400, evG_ev _ _ _ _ _ _ _ ht⟩
          have eM : Z X 95 0 [.ref 64, uns] [] (w1 ++ [.inr (9, (kD 9).2.2)]) = some (none, w2) := Z_iff.mpr ⟨400, evG_ev _ _ _ _ _ _ _ hm⟩
          have z0 : nI 0 = 0 := rfl
          refine ⟨w2, ckZ_of h2, ?_⟩
          rw [z0]
          simp only [z168_0, z168_3, z168_3r, z168_4, z168_7, z168_8, z168_11, z168_11r, z168_12, z168_15, z168_16, z168_17, Option.bind_some, Option.toList_some, Option.toList_none, List.cons_append, List.nil_append, sc_i, sc_r, sc_l, sc_u, sc_s, List.length_nil, List.length_cons, Nat.reduceAdd, Nat.reduceLeDiff, Nat.zero_le, le4_0, le4_1, le4_2, le4_3, rz0, rz1, rzt, eq_self, sc_u, eT, hl, eM]
