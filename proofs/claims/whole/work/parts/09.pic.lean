/-! What the picture means of the machine: values, cells, locals -/
theorem lk_in : ∀ {p : Nat} {l : List kE} {e : kO}, lk p l = some e → (p, e) ∈ l := by
  intro p l
  induction l with
  | nil => intro e h; simp [lk] at h
  | cons q r ih =>
    intro e h
    unfold lk at h
    cases hq : Nat.beq p q.1 with
    | true =>
      rw [hq] at h
      simp only [cond_true, Option.some.injEq] at h
      have h1 := Nat.eq_of_beq_eq_true hq
      subst h
      subst h1
      exact List.mem_cons_self
    | false =>
      rw [hq] at h
      simp only [cond_false] at h
      exact List.mem_cons_of_mem _ (ih h)
theorem allr {f : Nat → Bool} {a n mi : Nat} (h : (List.range' a n).all f = true) (h1 : a ≤ mi) (h2 : mi < a + n) : f mi = true := List.all_eq_true.mp h mi (List.mem_range'_1.mpr ⟨h1, h2⟩)
theorem eOK_lo {mi : Nat} (h : mi < kN) : (kLt mi).all (eOK mi) = true := by
  have h' : mi < 168 := h
  by_cases h0 : mi < 16
  · exact allr (f := fun mi => (kLt mi).all (eOK mi)) eOK_0 (by omega) (by omega)
  by_cases h0 : mi < 32
  · exact allr (f := fun mi => (kLt mi).all (eOK mi)) eOK_16 (by omega) (by omega)
  by_cases h0 : mi < 48
  · exact allr (f := fun mi => (kLt mi).all (eOK mi)) eOK_32 (by omega) (by omega)
  by_cases h0 : mi < 64
  · exact allr (f := fun mi => (kLt mi).all (eOK mi)) eOK_48 (by omega) (by omega)
  by_cases h0 : mi < 80
  · exact allr (f := fun mi => (kLt mi).all (eOK mi)) eOK_64 (by omega) (by omega)
  by_cases h0 : mi < 96
  · exact allr (f := fun mi => (kLt mi).all (eOK mi)) eOK_80 (by omega) (by omega)
  by_cases h0 : mi < 112
  · exact allr (f := fun mi => (kLt mi).all (eOK mi)) eOK_96 (by omega) (by omega)
  by_cases h0 : mi < 128
  · exact allr (f := fun mi => (kLt mi).all (eOK mi)) eOK_112 (by omega) (by omega)
  by_cases h0 : mi < 144
  · exact allr (f := fun mi => (kLt mi).all (eOK mi)) eOK_128 (by omega) (by omega)
  by_cases h0 : mi < 160
  · exact allr (f := fun mi => (kLt mi).all (eOK mi)) eOK_144 (by omega) (by omega)
  · exact allr (f := fun mi => (kLt mi).all (eOK mi)) eOK_160 (by omega) (by omega)
theorem eOK_law : (kLt 168).all (eOK 168) = true := by
  have e : kLt 168 = kL_168 := rfl
  rw [e]
  unfold kL_168
  simp only [List.all_append, eOK_L0, eOK_L1, eOK_L2, eOK_L3, eOK_L4, eOK_L5, eOK_L6, eOK_L7, eOK_L8, eOK_L9, eOK_L10, eOK_L11, Bool.and_self]
theorem kI_ok {mi pc : Nat} {e : kO} (hm : mi ≤ kN) (h : kI mi pc = some e) : eOK mi (pc, e) = true := by
  have hin := lk_in h
  rcases Nat.lt_or_ge mi kN with h1 | h1
  · exact List.all_eq_true.mp (eOK_lo h1) _ hin
  · have : mi = 168 := Nat.le_antisymm hm h1
    subst this
    exact List.all_eq_true.mp eOK_law _ hin
theorem mOK_lo {mi : Nat} (h : mi < kN) : mOK mi = true := by
  have h' : mi < 168 := h
  by_cases h0 : mi < 12
  · exact allr mOK_0 (by omega) (by omega)
  by_cases h0 : mi < 24
  · exact allr mOK_12 (by omega) (by omega)
  by_cases h0 : mi < 36
  · exact allr mOK_24 (by omega) (by omega)
  by_cases h0 : mi < 48
  · exact allr mOK_36 (by omega) (by omega)
  by_cases h0 : mi < 60
  · exact allr mOK_48 (by omega) (by omega)
  by_cases h0 : mi < 72
  · exact allr mOK_60 (by omega) (by omega)
  by_cases h0 : mi < 84
  · exact allr mOK_72 (by omega) (by omega)
  by_cases h0 : mi < 96
  · exact allr mOK_84 (by omega) (by omega)
  by_cases h0 : mi < 108
  · exact allr mOK_96 (by omega) (by omega)
  by_cases h0 : mi < 120
  · exact allr mOK_108 (by omega) (by omega)
  by_cases h0 : mi < 132
  · exact allr mOK_120 (by omega) (by omega)
  by_cases h0 : mi < 144
  · exact allr mOK_132 (by omega) (by omega)
  by_cases h0 : mi < 156
  · exact allr mOK_144 (by omega) (by omega)
  · exact allr mOK_156 (by omega) (by omega)
theorem cOK_lo {ci : Nat} (h : ci < 10) : cOK ci = true := List.all_eq_true.mp cOK_all ci (List.mem_range.mpr h)
def cv (b : Nat) (ad : Nat → Nat) : Value → Value
  | .ref k => .ref (ad k)
  | .retAddr _ => .ref b
  | v => v
def cE (tc : FieldType → ClassId) (b : Nat) (ad : Nat → Nat) : AC → va_E
  | .inl x => .inl (tc x.1, x.2)
  | .inr o => .inr (o.1, o.2.map (cv b ad))
def cW (tc : FieldType → ClassId) (b : Nat) (ad : Nat → Nat) (w : AW) : va_W := w.mapIdx (fun k e => (ad k, cE tc b ad e))
def kTys (tc : FieldType → ClassId) : List (ClassId × FieldType) := [(tc .int, .int), (tc .long, .long), (tc .boolean, .boolean)]
theorem cW_get {tc : FieldType → ClassId} {b : Nat} {ad : Nat → Nat} {w : AW} {k : Nat} {e : AC} (h : w[k]? = some e) : (cW tc b ad w)[k]? = some (ad k, cE tc b ad e) := by
  simp [cW, List.getElem?_mapIdx, h]
theorem cW_of {tc : FieldType → ClassId} {b : Nat} {ad : Nat → Nat} {w : AW} {k : Nat} {q : Nat × va_E} (h : (cW tc b ad w)[k]? = some q) : k < w.length ∧ q.1 = ad k := by
  simp only [cW, List.getElem?_mapIdx, Option.map_eq_some_iff] at h
  obtain ⟨a, h1, h2⟩ := h
  exact ⟨(List.getElem?_eq_some_iff.mp h1).1, by rw [← h2]⟩
theorem cW_set {tc : FieldType → ClassId} {b : Nat} {ad : Nat → Nat} {w : AW} {k : Nat} {e : AC} : cW tc b ad (w.set k e) = (cW tc b ad w).set k (ad k, cE tc b ad e) := by
  apply List.ext_getElem?
  intro i
  simp only [cW, List.getElem?_mapIdx, List.getElem?_set, List.length_mapIdx]
  by_cases h : k = i
  · subst h
    by_cases h2 : k < w.length <;> simp [h2]
  · simp [h]
theorem cW_push {tc : FieldType → ClassId} {b : Nat} {ad : Nat → Nat} {w : AW} {e : AC} : cW tc b ad (w ++ [e]) = cW tc b ad w ++ [(ad w.length, cE tc b ad e)] := by
  simp [cW, List.mapIdx_append]
def csz : AC → Nat
  | .inl x => x.2.1
  | .inr o => o.2.length
def tot (w : AW) : Nat := (w.map csz).sum
theorem tot_set {w : AW} {k : Nat} {c c0 : AC} (h : w[k]? = some c0) (hc : csz c = csz c0) : tot (w.set k c) = tot w := by
  unfold tot
  rw [List.map_set, hc]
  congr 1
  apply List.ext_getElem?
  intro i
  rw [List.getElem?_set]
  by_cases hi : k = i
  · subst hi
    obtain ⟨hl, he⟩ := List.getElem?_eq_some_iff.mp h
    simp [hl, he]
  · simp [hi]
theorem tot_push {w : AW} {c : AC} : tot (w ++ [c]) = tot w + csz c := by simp [tot]
theorem aok_spec {w : AW} {a : Nat} (h : aok w a = true) : ∃ (n : Nat) (g : Nat → Int32), w[a]? = some (.inl (.int, n, .inl g)) ∧ aget w a = g ∧ alen w a = n ∧ ∀ g', aset w a g' = w.set a (.inl (.int, n, .inl g')) := by
  unfold aok at h
  split at h
  · rename_i n g he
    exact ⟨n, g, he, by simp [aget, he], by simp [alen, he], fun g' => by simp [aset, he]⟩
  · cases h
theorem zok_spec {w : AW} {a : Nat} (h : zok w a = true) : ∃ (n : Nat) (g : Nat → Int32), w[a]? = some (.inl (.boolean, n, .inl g)) ∧ aget w a = g ∧ alen w a = n ∧ ∀ g', aset w a g' = w.set a (.inl (.boolean, n, .inl g')) := by
  unfold zok at h
  split at h
  · rename_i n g he
    exact ⟨n, g, he, by simp [aget, he], by simp [alen, he], fun g' => by simp [aset, he]⟩
  · cases h
theorem jok_spec {w : AW} {a : Nat} (h : jok w a = true) : ∃ (n : Nat) (g : Nat → Int64), w[a]? = some (.inl (.long, n, .inr (.inl g))) ∧ jget w a = g ∧ alen w a = n ∧ ∀ g', jset w a g' = w.set a (.inl (.long, n, .inr (.inl g'))) := by
  unfold jok at h
  split at h
  · rename_i n g he
    exact ⟨n, g, he, by simp [jget, he], by simp [alen, he], fun g' => by simp [jset, he]⟩
  · cases h
theorem fok_spec {w : AW} {f ci k : Nat} (h : fok w f ci k = true) : ∃ fs : List Value, w[f]? = some (.inr (ci, fs)) ∧ k < fs.length ∧ fget w f k = fs.getD k .null ∧ ∀ v, fset w f k v = w.set f (.inr (ci, fs.set k v)) := by
  unfold fok at h
  split at h
  · rename_i o he
    obtain ⟨c, fs⟩ := o
    simp only [Bool.and_eq_true] at h
    have h1 := Nat.eq_of_beq_eq_true h.1
    have h2 : k < fs.length := by simpa using h.2
    try dsimp only at h1
    subst h1
    exact ⟨fs, he, h2, by simp [fget, he], fun v => by simp [fset, he]⟩
  · cases h
theorem cok_spec {w : AW} {f ci : Nat} (h : cok w f ci = true) : ∃ fs : List Value, w[f]? = some (.inr (ci, fs)) := by
  unfold cok at h
  split at h
  · rename_i o he
    obtain ⟨c, fs⟩ := o
    have h1 := Nat.eq_of_beq_eq_true h
    try dsimp only at h1
    subst h1
    exact ⟨fs, he⟩
  · cases h
theorem inB_spec {i : Int32} {n : Nat} (h : inB i n = true) : vp_in i n := by
  simp only [inB, Bool.and_eq_true, decide_eq_true_eq] at h
  exact vp_in_iff.mpr h
/-- worlds only grow -/
def gr (w w' : AW) : Prop := w.length ≤ w'.length ∧ tot w ≤ tot w'
theorem gr_rf {w : AW} : gr w w := ⟨Nat.le_refl _, Nat.le_refl _⟩
theorem gr_tr {a b c : AW} (h : gr a b) (h' : gr b c) : gr a c := ⟨Nat.le_trans h.1 h'.1, Nat.le_trans h.2 h'.2⟩
theorem gr_eq {a b : AW} (h : b = a) : gr a b := h ▸ gr_rf
theorem gr_set {w : AW} {k : Nat} {c c0 : AC} (h : w[k]? = some c0) (hc : csz c = csz c0) : gr w (w.set k c) := ⟨by simp, Nat.le_of_eq (tot_set h hc).symm⟩
theorem gr_fset {w : AW} {f k : Nat} {v : Value} : gr w (fset w f k v) := by
  unfold fset
  split
  · rename_i o he; exact gr_set he (by simp [csz])
  · exact gr_rf
theorem gr_aset {w : AW} {a : Nat} {g : Nat → Int32} : gr w (aset w a g) := by
  unfold aset
  split
  · rename_i he; exact gr_set he rfl
  · exact gr_rf
theorem gr_jset {w : AW} {a : Nat} {g : Nat → Int64} : gr w (jset w a g) := by
  unfold jset
  split
  · rename_i he; exact gr_set he rfl
  · exact gr_rf
theorem gr_push {w : AW} {c : AC} : gr w (w ++ [c]) := ⟨by simp, by rw [tot_push]; omega⟩
theorem gr_some {o : Option Cfg} {c : Cfg} {w : AW} (h : o = some c) (hw : ∀ d, o = some d → gr w d.2.2.2) : gr w c.2.2.2 := hw c h
theorem ld_w {L S : List Value} {w : AW} {i pc t : Nat} {c : Cfg} (h : ld L i S w pc t = some c) : c.2.2.2 = w := by
  simp only [ld, Bool.cond_eq_ite] at h
  repeat' (split at h)
  all_goals first | (cases h; rfl) | (cases h; done)
theorem st_w {L S : List Value} {w : AW} {i pc t : Nat} {c : Cfg} (h : st L i S w pc t = some c) : c.2.2.2 = w := by
  simp only [st, Bool.cond_eq_ite] at h
  repeat' (split at h)
  all_goals first | (simp only [Option.map_eq_some_iff] at h; obtain ⟨a, -, h⟩ := h; rw [← h]) | (cases h; done)
theorem i2_w {f : Int32 → Int32 → Int32} {L S : List Value} {w : AW} {pc : Nat} {c : Cfg} (h : i2 f pc L S w = some c) : c.2.2.2 = w := by
  simp only [i2] at h
  split at h
  · cases h; rfl
  · cases h
theorem l2_w {f : Int64 → Int64 → Int64} {L S : List Value} {w : AW} {pc : Nat} {c : Cfg} (h : l2 f pc L S w = some c) : c.2.2.2 = w := by
  simp only [l2] at h
  split at h
  · cases h; rfl
  · cases h
theorem sw_w {L S : List Value} {w : AW} {pc : Nat} {o : Int} {c : Cfg} (h : sw pc o L S w = some c) : c.2.2.2 = w := by
  simp only [sw, Bool.cond_eq_ite] at h
  split at h
  · cases h; rfl
  · cases h
theorem stepI_gr {X : Scr} {mi pc : Nat} {e : kO} {L S : List Value} {w : AW} {c : Cfg} (h : stepI X mi pc e L S w = some c) : gr w c.2.2.2 := by
  obtain ⟨i, r⟩ := e
  cases i
  all_goals simp only [stepI] at h
  all_goals first
    | (cases h; done)
    | (exact gr_eq (ld_w h))
    | (exact gr_eq (st_w h))
    | (exact gr_eq (i2_w h))
    | (exact gr_eq (l2_w h))
    | (exact gr_eq (sw_w h))
    | skip
  all_goals try simp only [Bool.cond_eq_ite] at h
  all_goals repeat' (split at h)
  all_goals first
    | (cases h; done)
    | (exact gr_eq (sw_w h))
    | (cases h; first | exact gr_rf | exact gr_fset | exact gr_aset | exact gr_jset | exact gr_push)
    | (simp only [Option.map_eq_some_iff] at h; obtain ⟨a, -, h⟩ := h; rw [← h]; exact gr_push)
theorem callE_gr {e : kO} {S : List Value} {w : AW} {q : Option (Nat × List Value) × List Value × AW} (h : callE e S w = some q) : gr w q.2.2 := by
  obtain ⟨i, r⟩ := e
  cases i
  all_goals simp only [callE] at h
  all_goals try simp only [Bool.cond_eq_ite] at h
  all_goals first | (cases h; done) | skip
  all_goals repeat' (split at h)
  all_goals first
    | (cases h; done)
    | (cases h; first | exact gr_rf | exact gr_aset)
theorem ev_gr {X : Scr} : ∀ (n mi pc : Nat) (L S : List Value) (w : AW) (q : Option Value × AW), ev X n mi pc L S w = some q → gr w q.2 := by
  intro n
  induction n with
  | zero => intro mi pc L S w q h; simp [ev] at h
  | succ n ih =>
    intro mi pc L S w q h
    rw [ev] at h
    cases hk : kI mi pc with
    | none => rw [hk] at h; cases h
    | some e =>
      rw [hk] at h
      dsimp only at h
      cases hs : stepI X mi pc e L S w with
      | some c => rw [hs] at h; exact gr_tr (stepI_gr hs) (ih _ _ _ _ _ _ h)
      | none =>
        rw [hs] at h
        dsimp only at h
        cases hc : callE e S w with
        | none =>
          rw [hc] at h
          dsimp only at h
          cases hr : retI mi e S with
          | none => rw [hr] at h; cases h
          | some r => rw [hr] at h; cases h; exact gr_rf
        | some c =>
          rw [hc] at h
          have hg := callE_gr hc
          obtain ⟨_ | ⟨y, As⟩, S1, w1⟩ := c
          · exact gr_tr hg (ih _ _ _ _ _ _ h)
          · dsimp only at h
            cases hy : ev X n y 0 (entryL (kM y).2.2.1 As) [] w1 with
            | none => rw [hy] at h; cases h
            | some r => rw [hy] at h; exact gr_tr hg (gr_tr (ih _ _ _ _ _ _ hy) (ih _ _ _ _ _ _ h))
/-- locals -/
def known : Value → Bool
  | .retAddr n => Nat.beq n 0
  | _ => true
def LOK (b : Nat) (ad : Nat → Nat) (ls : Array Slot) (nL : Nat) (L : List Value) : Prop := ls.size = nL ∧ lv_wf ls ∧ L.length = nL ∧ (∀ (i : Nat) (v : Value), L[i]? = some v → known v = true → ls[i]? = some (.val (cv b ad v))) ∧ ∀ (i : Nat) (v : Value), L[i]? = some v → v.category = 2 → L[i + 1]? = some sec
def lvo (b : Nat) (ad : Nat → Nat) (L : List Value) : List (Nat × Value) := L.zipIdx.filterMap (fun q => if known q.1 then some (q.2, cv b ad q.1) else none)
theorem lvo_in {b : Nat} {ad : Nat → Nat} {L : List Value} {i : Nat} {v' : Value} : (i, v') ∈ lvo b ad L ↔ ∃ v, L[i]? = some v ∧ known v = true ∧ v' = cv b ad v := by
  simp only [lvo, List.mem_filterMap]
  constructor
  · rintro ⟨⟨v, j⟩, h1, h2⟩
    by_cases hk : known v = true
    · simp only [hk, if_true, Option.some.injEq, Prod.mk.injEq] at h2
      obtain ⟨rfl, rfl⟩ := h2
      exact ⟨v, List.mem_zipIdx_iff_getElem?.mp h1, hk, rfl⟩
    · simp [hk] at h2
  · rintro ⟨v, h1, hk, rfl⟩
    exact ⟨(v, i), List.mem_zipIdx_iff_getElem?.mpr h1, by simp [hk]⟩
theorem LOK.has {b : Nat} {ad : Nat → Nat} {ls : Array Slot} {nL : Nat} {L : List Value} (h : LOK b ad ls nL L) : lv_has ls nL (lvo b ad L) := by
  refine ⟨h.1, h.2.1, ?_⟩
  rintro ⟨i, v'⟩ hq
  obtain ⟨v, h1, h2, rfl⟩ := lvo_in.mp hq
  exact h.2.2.2.1 i v h1 h2
theorem cv_cat {b : Nat} {ad : Nat → Nat} {v : Value} : (cv b ad v).category = v.category := by cases v <;> rfl
theorem stL_spec {L L' : List Value} {i : Nat} {v : Value} (h : stL L i v = some L') : i < L.length ∧ L[i]? ≠ some sec ∧ L' = L.set i v := by
  simp only [stL, Bool.cond_eq_ite] at h
  split at h
  · rename_i hc
    simp only [Bool.and_eq_true] at hc
    have h1 : i < L.length := by simpa using hc.1
    refine ⟨h1, fun hs => ?_, (Option.some.inj h).symm⟩
    have h2 := hc.2
    rw [List.getD_eq_getElem?_getD, hs] at h2
    simp [isSec, sec] at h2
  · cases h
theorem stL2_spec {L L' : List Value} {i : Nat} {v : Value} (h : stL2 L i v = some L') : i + 1 < L.length ∧ L[i]? ≠ some sec ∧ L' = (L.set i v).set (i + 1) sec := by
  simp only [stL2, Bool.cond_eq_ite] at h
  split at h
  · rename_i hc
    simp only [Bool.and_eq_true] at hc
    have h1 : i + 1 < L.length := by simpa using hc.1
    refine ⟨h1, fun hs => ?_, (Option.some.inj h).symm⟩
    have h2 := hc.2
    rw [List.getD_eq_getElem?_getD, hs] at h2
    simp [isSec, sec] at h2
  · cases h
