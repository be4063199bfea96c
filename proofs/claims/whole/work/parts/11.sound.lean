/-! The picture is sound: what it comes to, the machine comes to -/
theorem good_kWs {l : List Jvm.Cond} (h : ∀ w ∈ l, w ∈ kWs) : GoodIn kWs l := fun w hw => ⟨h w hw, good_of_word (List.mem_filter.mp (h w hw)).2⟩
theorem tk_spec : ∀ {n : Nat} {S As r : List Value}, tk n S = some (As, r) → As.length = n ∧ S = As.reverse ++ r := by
  intro n
  induction n with
  | zero => intro S As r h; simp only [tk, Option.some.injEq, Prod.mk.injEq] at h; obtain ⟨rfl, rfl⟩ := h; exact ⟨rfl, rfl⟩
  | succ n ih =>
    intro S As r h
    cases S with
    | nil => simp [tk] at h
    | cons v S =>
      simp only [tk] at h
      split at h
      · rename_i a r' he
        simp only [Option.some.injEq, Prod.mk.injEq] at h
        obtain ⟨rfl, rfl⟩ := h
        obtain ⟨h1, h2⟩ := ih he
        exact ⟨by simp [h1], by rw [h2]; simp⟩
      · cases h
theorem cat_le (v : Value) : v.category ≤ 2 := by cases v <;> simp [Value.category]
theorem cat_sum {b : Nat} {ad : Nat → Nat} : ∀ (S : List Value), ((S.map (cv b ad)).map fun v => v.category).sum ≤ 2 * S.length := by
  intro S
  induction S with
  | nil => simp
  | cons v S ih =>
    have := cat_le (cv b ad v)
    simp only [List.map_cons, List.sum_cons, List.length_cons]
    omega
theorem lg_len {b : Nat} {ad : Nat → Nat} : ∀ (As : List Value), (lg_sl (As.map (cv b ad))).length = (locs2 As).length := by
  intro As
  induction As with
  | nil => rfl
  | cons v As ih =>
    rw [List.map_cons]
    unfold lg_sl at ih ⊢
    rw [List.flatMap_cons, List.length_append, ih]
    cases v <;> simp [cv, locs2, isC2, Value.category] <;> omega
theorem args_in {b : Nat} {ad : Nat → Nat} : ∀ (As : List Value) (k i : Nat) (v : Value), (locs2 As)[i]? = some v → known v = true → (i + k, cv b ad v) ∈ lv_args k (As.map (cv b ad)) := by
  intro As
  induction As with
  | nil => intro k i v h; simp [locs2] at h
  | cons u As ih =>
    intro k i v h hk
    rw [List.map_cons]
    unfold lv_args
    unfold locs2 at h
    cases hc : isC2 u with
    | true =>
      have h2 : (cv b ad u).category = 2 := by cases u <;> simp [isC2] at hc <;> rfl
      rw [hc, cond_true] at h
      rw [if_pos h2]
      match i with
      | 0 => simp at h; subst h; simp
      | 1 => simp at h; subst h; simp [known, sec] at hk
      | i + 2 =>
        simp only [List.getElem?_cons_succ] at h
        have := ih (k + 2) i v h hk
        rw [show i + 2 + k = i + (k + 2) by omega]
        exact List.mem_cons_of_mem _ this
    | false =>
      have h2 : ¬ (cv b ad u).category = 2 := by cases u <;> simp [isC2] at hc <;> simp [cv, Value.category]
      rw [hc, cond_false] at h
      rw [if_neg h2]
      match i with
      | 0 => simp at h; subst h; simp
      | i + 1 =>
        simp only [List.getElem?_cons_succ] at h
        have := ih (k + 1) i v h hk
        rw [show i + 1 + k = i + (k + 1) by omega]
        exact List.mem_cons_of_mem _ this
theorem locs2_sec : ∀ (As : List Value) (i : Nat) (v : Value), (locs2 As)[i]? = some v → v.category = 2 → (locs2 As)[i + 1]? = some sec := by
  intro As
  induction As with
  | nil => intro i v h; simp [locs2] at h
  | cons u As ih =>
    intro i v h hk
    unfold locs2 at h ⊢
    cases hc : isC2 u with
    | true =>
      rw [hc, cond_true] at h
      rw [cond_true]
      match i with
      | 0 => simp
      | 1 => simp at h; subst h; simp [sec, Value.category] at hk
      | i + 2 =>
        simp only [List.getElem?_cons_succ] at h ⊢
        exact ih i v h hk
    | false =>
      rw [hc, cond_false] at h
      rw [cond_false]
      match i with
      | 0 => simp at h; subst h; cases u <;> simp [isC2, Value.category] at hc hk
      | i + 1 =>
        simp only [List.getElem?_cons_succ] at h ⊢
        exact ih i v h hk
theorem LOK.entry {b : Nat} {ad : Nat → Nat} {nL : Nat} {As : List Value} {ls : Array Slot} (h : (locs2 As).length ≤ nL) (hl : lv_has ls nL (lv_args 0 (As.map (cv b ad)))) : LOK b ad ls nL (entryL nL As) := by
  refine ⟨hl.1, hl.2.1, by simp [entryL]; omega, fun i v hi hk => ?_, fun i v hi hc => ?_⟩
  · unfold entryL at hi
    by_cases hlt : i < (locs2 As).length
    · rw [List.getElem?_append_left hlt] at hi
      have := args_in (b := b) (ad := ad) As 0 i v hi hk
      exact hl.2.2 _ this
    · rw [List.getElem?_append_right (by omega)] at hi
      have := List.eq_of_mem_replicate (List.mem_of_getElem? hi)
      subst this
      simp [known, uns] at hk
  · unfold entryL at hi ⊢
    by_cases hlt : i < (locs2 As).length
    · rw [List.getElem?_append_left hlt] at hi
      have h1 := locs2_sec As i v hi hc
      rw [List.getElem?_append_left (List.getElem?_eq_some_iff.mp h1).1]
      exact h1
    · rw [List.getElem?_append_right (by omega)] at hi
      have := List.eq_of_mem_replicate (List.mem_of_getElem? hi)
      subst this
      simp [uns, Value.category] at hc
/-- which cells a call may change -/
def fA (tc : FieldType → ClassId) (b : Nat) (ad : Nat → Nat) (w : AW) : Nat → Prop := va_A (cW tc b ad w) (ad w.length)
def PcE (X : Scr) (b : Nat) (ad : Nat → Nat) (D : va_G) (tc : FieldType → ClassId) (w0 : AW) (As : List Value) : Array Value → State → Prop := fun a U => a = (As.map (cv b ad)).toArray ∧ va_P D vwCl (cW tc b ad w0) U.heap ∧ va_D (fun _ => True) (cW tc b ad w0) ∧ va_K D vwCl (kTys tc) U ∧ NW U ∧ (∀ j, ad (w0.length + j) = U.heap.size + j) ∧ va_X b X.1 X.2 U U.heap ∧ b < U.heap.size ∧ ∀ k, k < w0.length → ad k ≠ b
def QcE (b : Nat) (ad : Nat → Nat) (D : va_G) (tc : FieldType → ClassId) (w0 : AW) (r : Option Value) (w1 : AW) : Array Value → State → Outcome → State → Prop := fun _ st o t => o = .returned (r.map (cv b ad)) ∧ WR b ad D tc (fA tc b ad w0) w1 t.heap ∧ va_F (fA tc b ad w0) st t
def wsM (mi : Nat) : List Jvm.Cond := .code (kM mi).1 (kM mi).2.1 (kM mi).2.2.1 (kM mi).2.2.2 :: kWs
def Con (l : Launch) (X : Scr) (b : Nat) (ad : Nat → Nat) (D : va_G) (tc : FieldType → ClassId) (mi : Nat) (As : List Value) (w0 : AW) (r : Option Value) (w1 : AW) : Prop :=
  Met l (kM mi).1 (wsM mi) { frames := (kR mi).1, cells := w1.length - w0.length, slots := tot w1 - tot w0, locals := (kR mi).2.1 } (PcE X b ad D tc w0 As) (QcE b ad D tc w0 r w1) (w1.length - w0.length) (tot w1 - tot w0) (fA tc b ad w0)
def EndOK (p : Program) (l : Launch) (e : Env) (R : Room) (s : State) (m : MethodId) (args : Array Value) (below : List Frame) (meth : Method) (c : Code) (Q : State → Prop) (b : Nat) (ad : Nat → Nat) (D : va_G) (tc : FieldType → ClassId) (A : Nat → Prop) (mi c1 s1 : Nat) (r : Option Value) (w1 : AW) : Prop :=
  ∀ (pc : Nat) (eo : kO) (S : List Value) (H : Heap) (locs : List Loc) (ls : Array Slot), kI mi pc = some eo → retI mi eo S = some r → WR b ad D tc A w1 H → va_S A s.heap H locs → W p l e R s m args below meth c H locs c1 s1 Q (F0 m pc ls (S.map (cv b ad)))
def BS (l : Launch) (X : Scr) (b : Nat) (ad : Nat → Nat) (D : va_G) (tc : FieldType → ClassId) (n : Nat) : Prop :=
  ∀ (p : Program) (e : Env) (R : Room) (s : State) (m : MethodId) (args : Array Value) (below : List Frame) (meth : Method) (c : Code) (Q : State → Prop) (A : Nat → Prop) (mi : Nat) (r : Option Value) (w1 : AW) (c1 s1 : Nat), mi ≤ kN → Cx p R s m args meth c X b D tc A mi → EndOK p l e R s m args below meth c Q b ad D tc A mi c1 s1 r w1 → c1 ≤ R.cells → s1 ≤ R.slots →
  ∀ (pc : Nat) (L S : List Value) (w : AW) (H : Heap) (locs : List Loc) (ls : Array Slot) (c0 s0 : Nat), ev X n mi pc L S w = some (r, w1) → c0 + w1.length = c1 + w.length → s0 + tot w1 = s1 + tot w → WR b ad D tc A w H → va_S A s.heap H locs → LOK b ad ls (kM mi).2.2.1 L → W p l e R s m args below meth c H locs c0 s0 Q (F0 m pc ls (S.map (cv b ad)))
theorem blindE {X : Scr} {b : Nat} {ad : Nat → Nat} {D : va_G} {tc : FieldType → ClassId} {w0 : AW} {As : List Value} : FrameBlind (PcE X b ad D tc w0 As) := by
  intro a U g mk h
  obtain ⟨h1, h2, h3, h4, h5, h6, h7, h8, h9⟩ := h
  exact ⟨h1, h2, h3, va_K.moved (u := U) (U := U.calling g mk a) (Vm.Alike.refl U.vm) h4, fun a' i x h hin => va_Nw.same rfl rfl (h5 a' i x h hin), h6, va_X.moved (u := U) (U := U.calling g mk a) (Vm.Alike.refl U.vm) h7, h8, h9⟩
theorem con_of {l : Launch} {X : Scr} {b : Nat} {ad : Nat → Nat} {D : va_G} {tc : FieldType → ClassId} {n : Nat} (hB : BS l X b ad D tc n) {mi : Nat} (hm : mi < kN) {As : List Value} {w0 w1 : AW} {r : Option Value} (hlen : (locs2 As).length ≤ (kM mi).2.2.1) (hev : ev X n mi 0 (entryL (kM mi).2.2.1 As) [] w0 = some (r, w1)) : Con l X b ad D tc mi As w0 r w1 := by
  have hmo := mOK_lo hm
  simp only [mOK, Bool.and_eq_true, decide_eq_true_eq] at hmo
  obtain ⟨⟨⟨⟨⟨hm1, hm2⟩, hm3⟩, hm4⟩, hm5⟩, hm6⟩ := hmo
  have hgr := ev_gr _ _ _ _ _ _ _ hev
  refine Met.ofW (cc := (kM mi).2.1) (maxL := (kM mi).2.2.1) (ret := (kM mi).2.2.2) hm4 rfl ?_
  intro p e s m args below meth c s₁ B hml hv
  obtain ⟨rfl, hP, hD, hK, hNW, hF, hX, hbl, hbk⟩ := hv
  have hts := atoms_spec (ws := wsM mi) B.pre
  have hsz : ad w0.length = s.heap.size := hF 0
  have hAd : fA tc b ad w0 = va_A (cW tc b ad w0) s.heap.size := by rw [fA, hsz]
  have hA : ∀ q, s.heap.size ≤ q → fA tc b ad w0 q := fun q h => by rw [hAd]; exact Or.inr h
  have hbA : ¬ fA tc b ad w0 b := by
    rw [hAd]
    rintro (⟨k, e, h⟩ | h)
    · obtain ⟨h1, h2⟩ := cW_of h
      exact hbk k h1 h2.symm
    · omega
  have hlocks := B.notSynchronized
  have hr := B.returns
  have C : Cx p (headSpec (wsM mi) { frames := (kR mi).1, cells := w1.length - w0.length, slots := tot w1 - tot w0, locals := (kR mi).2.1 }).room s m ((As.map (cv b ad)).toArray) meth c X b D tc (fA tc b ad w0) mi :=
    ⟨B.exec, B.bytes, hml, fun w hw => hts w (List.mem_cons_of_mem _ hw), findClass_of_methodNamed B.named, fun h2 => by
      rw [(name_of_methodNamed B.named B.method).1]
      rw [h2] at hm5
      simp only [Bool.and_eq_true, decide_eq_true_eq] at hm5
      exact hm5.1.2, hNW, hK, hX, hbl, hbA, hA, Nat.le_refl _, Nat.le_refl _⟩
  have hl := lv_entry (As.map (cv b ad)) (n := (kM mi).2.2.1) (by rw [lg_len]; exact hlen)
  rw [lg_entry_eq]
  generalize (lg_sl (As.map (cv b ad)) ++ List.replicate ((kM mi).2.2.1 - (lg_sl (As.map (cv b ad))).length) Slot.unset).toArray = ls at hl ⊢
  have hdec : ∀ {pc : Nat} {eo : kO}, kI mi pc = some eo → decode (kM mi).2.1 pc = .ok (eo.1, eo.2.1) ∧ (ilen eo.1 = 0 ∨ ilen eo.1 = eo.2.1) := fun h => ⟨(eOK_dec (kI_ok (Nat.le_of_lt hm) h)).1, (eOK_dec (kI_ok (Nat.le_of_lt hm) h)).2.1⟩
  have hend : EndOK p l e (headSpec (wsM mi) { frames := (kR mi).1, cells := w1.length - w0.length, slots := tot w1 - tot w0, locals := (kR mi).2.1 }).room s m ((As.map (cv b ad)).toArray) below meth c (MQ below (QcE b ad D tc w0 r w1) ((As.map (cv b ad)).toArray) s (w1.length - w0.length) (tot w1 - tot w0) (fA tc b ad w0)) b ad D tc (fA tc b ad w0) mi (w1.length - w0.length) (tot w1 - tot w0) r w1 := by
    intro pc eo S H locs ls hk hri hW hS
    obtain ⟨hd, hln⟩ := hdec hk
    have hq : ∀ (v : Option Value), v = r → ∀ t : State, t.heap = H → s.WarmedH t.vm → QcE b ad D tc w0 r w1 ((As.map (cv b ad)).toArray) s (.returned (v.map (cv b ad))) t := fun v hv t ht _ => ⟨by rw [hv], by rw [ht]; exact hW, hS.F ht⟩
    obtain ⟨i, len, rest⟩ := eo
    dsimp only at hd hln
    cases i with
    | ireturn =>
      cases len_of hln (by simp [ilen])
      simp only [retI, Bool.cond_eq_ite] at hri
      split at hri
      · split at hri
        · rename_i x ho
          have hri := Option.some.inj hri
          cases hret : (kM mi).2.2.2 with
          | none => rw [hret] at ho; simp [okR] at ho
          | some ty =>
            rw [hret] at ho hr
            have hn : narrow ty (.int x) = .int x := by
              cases ty <;> simp [okR] at ho <;> first | rfl | (rcases ho with rfl | rfl <;> rfl)
            exact W.zret B.exec B.bytes hr hn (hq _ hri) hS.2.2 hd hlocks
        · cases hri
      · cases hri
    | lreturn =>
      cases len_of hln (by simp [ilen])
      simp only [retI, Bool.cond_eq_ite] at hri
      split at hri
      · split at hri
        · rename_i x ho
          have hri := Option.some.inj hri
          cases hret : (kM mi).2.2.2 with
          | none => rw [hret] at ho; simp [okR] at ho
          | some ty =>
            rw [hret] at ho hr
            have hty : ty = .long := by cases ty <;> simp [okR] at ho <;> rfl
            subst hty
            exact W.lret B.exec B.bytes hr (hq _ hri) hS.2.2 hd hlocks
        · cases hri
      · cases hri
    | areturn =>
      cases len_of hln (by simp [ilen])
      simp only [retI, Bool.cond_eq_ite] at hri
      split at hri
      · split at hri
        · rename_i x ho
          have hri := Option.some.inj hri
          cases hret : (kM mi).2.2.2 with
          | none => rw [hret] at ho; simp [okR] at ho
          | some ty =>
            rw [hret] at ho hr
            cases ty <;> simp [okR] at ho
            exact W.aret B.exec B.bytes hr (Or.inl ⟨_, rfl⟩) (Or.inr ⟨_, rfl⟩) (hq _ hri) hS.2.2 hd hlocks
        · cases hri
      · cases hri
    | return_ =>
      cases len_of hln (by simp [ilen])
      simp only [retI, Bool.cond_eq_ite] at hri
      split at hri
      · split at hri
        · rename_i ho
          have hri := Option.some.inj hri
          cases hret : (kM mi).2.2.2 with
          | some ty => rw [hret] at ho; simp at ho
          | none =>
            rw [hret] at hr
            exact W.vret B.exec B.bytes hr (hq _ hri) hS.2.2 hd hlocks
        · cases hri
      · cases hri
    | _ => simp [retI] at hri
  have h0 : WR b ad D tc (fA tc b ad w0) w0 s.heap := ⟨hP, ⟨hD.1, fun k q h => Or.inl ⟨k, q.2, h⟩⟩, hF⟩
  have := hB p e _ s m _ below meth c _ (fA tc b ad w0) mi r w1 (w1.length - w0.length) (tot w1 - tot w0) (Nat.le_of_lt hm) C hend (Nat.le_refl _) (Nat.le_refl _) 0 (entryL (kM mi).2.2.1 As) [] w0 s.heap [] ls 0 0 hev (by have := hgr.1; dsimp only at this; omega) (by have := hgr.2; dsimp only at this; omega) h0 va_S.rf (LOK.entry hlen hl)
  exact this
