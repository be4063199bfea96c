/-! One step of the picture is one step of the machine -/
theorem eOK_dec {mi pc : Nat} {e : kO} (h : eOK mi (pc, e) = true) : decode (kM mi).2.1 pc = .ok (e.1, e.2.1) ∧ (ilen e.1 = 0 ∨ ilen e.1 = e.2.1) ∧ pOK mi e = true := by
  simp only [eOK, Bool.and_eq_true, decide_eq_true_eq, Bool.or_eq_true] at h
  exact ⟨h.1.1, h.1.2.elim (fun q => Or.inl (Nat.eq_of_beq_eq_true q)) (fun q => Or.inr (Nat.eq_of_beq_eq_true q)), h.2⟩
theorem len_of {n len : Nat} (h : n = 0 ∨ n = len) (hn : n ≠ 0) : len = n := by
  rcases h with h | h
  · exact absurd h hn
  · exact h.symm
theorem ld_spec {L S : List Value} {i pc t : Nat} {w : AW} {q : Cfg} (h : ld L i S w pc t = some q) : ∃ v, L[i]? = some v ∧ known v = true ∧ q = (pc, L, v :: S, w) ∧ ((t = 0 ∧ ∃ x, v = .int x) ∨ (t = 1 ∧ ∃ x, v = .long x) ∨ (t = 2 ∧ ((∃ x, v = .ref x) ∨ v = .retAddr 0))) := by
  simp only [ld, Bool.cond_eq_ite] at h
  split at h
  · rename_i x hx
    split at h
    · rename_i ht; cases h; exact ⟨_, hx, rfl, rfl, Or.inl ⟨Nat.eq_of_beq_eq_true ht, x, rfl⟩⟩
    · cases h
  · rename_i x hx
    split at h
    · rename_i ht; cases h; exact ⟨_, hx, rfl, rfl, Or.inr (Or.inl ⟨Nat.eq_of_beq_eq_true ht, x, rfl⟩)⟩
    · cases h
  · rename_i x hx
    split at h
    · rename_i ht; cases h; exact ⟨_, hx, rfl, rfl, Or.inr (Or.inr ⟨Nat.eq_of_beq_eq_true ht, Or.inl ⟨x, rfl⟩⟩)⟩
    · cases h
  · rename_i n hx
    split at h
    · rename_i ht
      simp only [Bool.and_eq_true] at ht
      have h0 := Nat.eq_of_beq_eq_true ht.2
      subst h0
      cases h; exact ⟨_, hx, rfl, rfl, Or.inr (Or.inr ⟨Nat.eq_of_beq_eq_true ht.1, Or.inr rfl⟩)⟩
    · cases h
  · cases h
theorem st_spec {L S : List Value} {i pc t : Nat} {w : AW} {q : Cfg} (h : st L i S w pc t = some q) : (t = 0 ∧ ∃ x S' L', S = .int x :: S' ∧ stL L i (.int x) = some L' ∧ q = (pc, L', S', w)) ∨ (t = 2 ∧ ∃ x S' L', S = .ref x :: S' ∧ stL L i (.ref x) = some L' ∧ q = (pc, L', S', w)) ∨ (t = 1 ∧ ∃ x S' L', S = .long x :: S' ∧ stL2 L i (.long x) = some L' ∧ q = (pc, L', S', w)) := by
  simp only [st, Bool.cond_eq_ite] at h
  split at h
  · split at h
    · rename_i ht
      simp only [Option.map_eq_some_iff] at h
      obtain ⟨L', h1, h2⟩ := h
      exact Or.inl ⟨Nat.eq_of_beq_eq_true ht, _, _, L', rfl, h1, h2.symm⟩
    · cases h
  · split at h
    · rename_i ht
      simp only [Option.map_eq_some_iff] at h
      obtain ⟨L', h1, h2⟩ := h
      exact Or.inr (Or.inl ⟨Nat.eq_of_beq_eq_true ht, _, _, L', rfl, h1, h2.symm⟩)
    · cases h
  · split at h
    · rename_i ht
      simp only [Option.map_eq_some_iff] at h
      obtain ⟨L', h1, h2⟩ := h
      exact Or.inr (Or.inr ⟨Nat.eq_of_beq_eq_true ht, _, _, L', rfl, h1, h2.symm⟩)
    · cases h
  · cases h
theorem i2_spec {f : Int32 → Int32 → Int32} {L S : List Value} {pc : Nat} {w : AW} {q : Cfg} (h : i2 f pc L S w = some q) : ∃ x y S', S = .int y :: .int x :: S' ∧ q = (pc, L, .int (f x y) :: S', w) := by
  simp only [i2] at h
  split at h
  · cases h; exact ⟨_, _, _, rfl, rfl⟩
  · cases h
theorem l2_spec {f : Int64 → Int64 → Int64} {L S : List Value} {pc : Nat} {w : AW} {q : Cfg} (h : l2 f pc L S w = some q) : ∃ x y S', S = .long y :: .long x :: S' ∧ q = (pc, L, .long (f x y) :: S', w) := by
  simp only [l2] at h
  split at h
  · cases h; exact ⟨_, _, _, rfl, rfl⟩
  · cases h
theorem tgt_spec {pc : Nat} {off : Int} (h : tgtOk pc off = true) : (pc : Int) + off = (tgt pc off : Int) := by
  simp only [tgtOk, decide_eq_true_eq] at h
  show (pc : Int) + off = ((Int.ofNat pc + off).toNat : Int)
  rw [Int.toNat_of_nonneg h]; rfl
theorem sw_spec {L S : List Value} {pc : Nat} {off : Int} {w : AW} {q : Cfg} (h : sw pc off L S w = some q) : (pc : Int) + off = (tgt pc off : Int) ∧ q = (tgt pc off, L, S, w) := by
  simp only [sw, Bool.cond_eq_ite] at h
  split at h
  · rename_i ht; cases h; exact ⟨tgt_spec ht, rfl⟩
  · cases h
theorem LOK.st1 {b : Nat} {ad : Nat → Nat} {ls ls' : Array Slot} {nL i : Nat} {L L' : List Value} {v : Value} (h : LOK b ad ls nL L) (hs : stL L i v = some L') (hc : v.category = 1) (h' : lv_has ls' nL ((i, cv b ad v) :: (lvo b ad L).filter (fun q => !(q.1 == i) && !(q.1 + 1 == i && q.2.category == 2)))) : LOK b ad ls' nL L' := by
  obtain ⟨hi, hns, rfl⟩ := stL_spec hs
  refine ⟨h'.1, h'.2.1, by simp [h.2.2.1], fun j u hj hk => ?_, fun j u hj hc2 => ?_⟩
  · rw [List.getElem?_set] at hj
    by_cases hij : i = j
    · subst hij
      simp [hi] at hj
      subst hj
      exact h'.2.2 (i, cv b ad v) List.mem_cons_self
    · simp only [hij, if_false] at hj
      refine h'.2.2 (j, cv b ad u) (List.mem_cons_of_mem _ (List.mem_filter.mpr ⟨lvo_in.mpr ⟨u, hj, hk, rfl⟩, ?_⟩))
      have h1 : ¬ (j + 1 = i ∧ u.category = 2) := fun ⟨e1, e2⟩ => hns (by rw [← e1]; exact h.2.2.2.2 j u hj e2)
      have h2 : ¬ j = i := fun q => hij q.symm
      simp only [cv_cat, Bool.and_eq_true, Bool.not_eq_true', beq_eq_false_iff_ne, ne_eq, h2, not_false_eq_true, true_and, Bool.and_eq_false_imp, beq_iff_eq]
      exact fun e1 e2 => h1 ⟨e1, e2⟩
  · rw [List.getElem?_set] at hj
    by_cases hij : i = j
    · subst hij
      simp [hi] at hj
      subst hj
      omega
    · simp only [hij, if_false] at hj
      have h1 := h.2.2.2.2 j u hj hc2
      have h2 : ¬ i = j + 1 := fun q => hns (by rw [q]; exact h1)
      rw [List.getElem?_set]
      simp only [h2, if_false]
      exact h1
theorem LOK.st2 {b : Nat} {ad : Nat → Nat} {ls ls' : Array Slot} {nL i : Nat} {L L' : List Value} {v : Value} (h : LOK b ad ls nL L) (hs : stL2 L i v = some L') (h' : lv_has ls' nL ((i, cv b ad v) :: (lvo b ad L).filter (fun q => !(q.1 == i) && (!(q.1 == i + 1) && !(q.1 + 1 == i && q.2.category == 2))))) : LOK b ad ls' nL L' := by
  obtain ⟨hi, hns, rfl⟩ := stL2_spec hs
  have hget : ∀ j : Nat, ((L.set i v).set (i + 1) sec)[j]? = if j = i + 1 then some sec else if j = i then some v else L[j]? := by
    intro j
    rw [List.getElem?_set, List.getElem?_set]
    by_cases h1 : j = i + 1
    · subst h1; simp [hi]
    · have h1' : ¬ i + 1 = j := fun q => h1 q.symm
      by_cases h2 : j = i
      · subst h2; simp [show j < L.length by omega]
      · have h2' : ¬ i = j := fun q => h2 q.symm
        simp [h1, h1', h2, h2']
  refine ⟨h'.1, h'.2.1, by simp [h.2.2.1], fun j u hj hk => ?_, fun j u hj hc2 => ?_⟩
  · rw [hget] at hj
    by_cases h1 : j = i + 1
    · rw [if_pos h1] at hj
      cases hj
      simp [known, sec] at hk
    · rw [if_neg h1] at hj
      by_cases h2 : j = i
      · rw [if_pos h2] at hj
        have hvu : v = u := Option.some.inj hj
        subst hvu
        subst h2
        exact h'.2.2 (j, cv b ad v) List.mem_cons_self
      · rw [if_neg h2] at hj
        refine h'.2.2 (j, cv b ad u) (List.mem_cons_of_mem _ (List.mem_filter.mpr ⟨lvo_in.mpr ⟨u, hj, hk, rfl⟩, ?_⟩))
        have h3 : ¬ (j + 1 = i ∧ u.category = 2) := fun ⟨e1, e2⟩ => hns (by rw [← e1]; exact h.2.2.2.2 j u hj e2)
        simp only [cv_cat, Bool.and_eq_true, Bool.not_eq_true', beq_eq_false_iff_ne, ne_eq, h1, h2, not_false_eq_true, true_and, Bool.and_eq_false_imp, beq_iff_eq]
        exact fun e1 e2 => h3 ⟨e1, e2⟩
  · rw [hget] at hj
    rw [hget]
    by_cases h1 : j = i + 1
    · rw [if_pos h1] at hj
      cases hj
      simp [sec, Value.category] at hc2
    · rw [if_neg h1] at hj
      by_cases h2 : j = i
      · rw [if_pos (by omega)]
      · rw [if_neg h2] at hj
        have h3 := h.2.2.2.2 j u hj hc2
        rw [if_neg (by omega), if_neg (fun q => hns (by rw [← q]; exact h3))]
        exact h3
theorem okV_spec {t : FieldType} {v : Value} {b : Nat} {ad : Nat → Nat} (h : okV t v = true) : narrow t (cv b ad v) = cv b ad v ∧ fits t (cv b ad v) = true := by
  cases t <;> cases v <;> first | (simp [okV] at h; done) | exact ⟨rfl, rfl⟩ | skip
  rename_i x
  simp only [okV, Bool.or_eq_true, beq_iff_eq] at h
  rcases h with rfl | rfl <;> exact ⟨rfl, rfl⟩
section SND
variable {p : Program} {l : Launch} {e : Env} {R : Room} {s : State} {m : MethodId} {args : Array Value} {below : List Frame} {meth : Method} {c : Code} {Q : State → Prop} {X : Scr} {b : Nat} {ad : Nat → Nat} {D : va_G} {tc : FieldType → ClassId} {A : Nat → Prop} {mi : Nat}
def NW (U : State) : Prop := ∀ (a : String) (i : Nat) (x : MethodName) (h : String), Cond.methodLinkNest a i x h ∈ lw_tbl → va_Nw (.methodLinkNest a i x h) U
/-- what stays, while a method runs -/
def Cx (p : Program) (R : Room) (s : State) (m : MethodId) (args : Array Value) (meth : Method) (c : Code) (X : Scr) (b : Nat) (D : va_G) (tc : FieldType → ClassId) (A : Nat → Prop) (mi : Nat) : Prop :=
  p.tables.exec = Jvm.exec ∧ c.code = (kM mi).2.1 ∧ c.maxLocals = (kM mi).2.2.1 ∧ (∀ w ∈ kWs, w.before args s = true) ∧ s.vm.findClass (kOwn mi) = some m.cls ∧ ((kR mi).2.2.2.2.2.2.2.2 = 2 → meth.name = "<init>") ∧ NW s ∧ va_K D vwCl (kTys tc) s ∧ va_X b X.1 X.2 s s.heap ∧ b < s.heap.size ∧ ¬ A b ∧ (∀ q, s.heap.size ≤ q → A q) ∧ (kR mi).1 ≤ R.frames ∧ (kR mi).2.1 ≤ R.locals
def WR (b : Nat) (ad : Nat → Nat) (D : va_G) (tc : FieldType → ClassId) (A : Nat → Prop) (w : AW) (H : Heap) : Prop := va_P D vwCl (cW tc b ad w) H ∧ va_D A (cW tc b ad w) ∧ ∀ j, ad (w.length + j) = H.size + j
def KK (p : Program) (l : Launch) (e : Env) (R : Room) (s : State) (m : MethodId) (args : Array Value) (below : List Frame) (meth : Method) (c : Code) (Q : State → Prop) (b : Nat) (ad : Nat → Nat) (D : va_G) (tc : FieldType → ClassId) (A : Nat → Prop) (mi c0 s0 : Nat) (w0 : AW) (q : Cfg) : Prop :=
  ∀ (H' : Heap) (locs' : List Loc) (ls' : Array Slot) (c1 s1 : Nat), c1 + w0.length = c0 + q.2.2.2.length → s1 + tot w0 = s0 + tot q.2.2.2 → WR b ad D tc A q.2.2.2 H' → va_S A s.heap H' locs' → LOK b ad ls' (kM mi).2.2.1 q.2.1 → W p l e R s m args below meth c H' locs' c1 s1 Q (F0 m q.1 ls' (q.2.2.1.map (cv b ad)))
theorem WR.push {w : AW} {H H' : Heap} {locs : List Loc} {x : AC} (hW : WR b ad D tc A w H) (hS : va_S A s.heap H locs) (hA : ∀ q, s.heap.size ≤ q → A q) (z1 : H'.size = H.size + 1) (o1 : ∀ q, q < H.size → H'[q]? = H[q]?) (hc : va_at D vwCl (H.size, cE tc b ad x) H') : WR b ad D tc A (w ++ [x]) H' ∧ va_S A s.heap H' locs := by
  obtain ⟨hP, hD, hF⟩ := hW
  have h0 : ad w.length = H.size := hF 0
  have hk : ∀ (k : Nat) (x : Nat × va_E), (cW tc b ad w)[k]? = some x → H'[x.1]? = H[x.1]? := fun k x hx => o1 x.1 ((hP k x hx).lt)
  refine ⟨⟨?_, ?_, fun j => ?_⟩, ⟨Nat.le_trans hS.1 (by omega), fun q h1 h2 => (o1 q (Nat.lt_of_lt_of_le h1 hS.1)).trans (hS.2.1 q h1 h2), hS.2.2⟩⟩
  · rw [cW_push]
    refine (hP.kept hk).app (fun k y hy => ?_)
    have hz : k < 1 := (List.getElem?_eq_some_iff.mp hy).1
    rw [show k = 0 by omega] at hy
    cases hy
    rw [h0]
    exact hc
  · rw [cW_push]
    exact hD.push hP h0 (by rw [h0]; exact hA _ hS.1)
  · have := hF (j + 1)
    rw [List.length_append, List.length_singleton, show w.length + 1 + j = w.length + (j + 1) by omega, this]
    omega
theorem WR.upd {w : AW} {H H1 : Heap} {a : Nat} {x x0 : AC} (hW : WR b ad D tc A w H) (h1 : w[a]? = some x0) (e : va_at D vwCl (ad a, cE tc b ad x) H1) (z : H1.size = H.size) (oq : ∀ q : Nat, q ≠ ad a → H1[q]? = H[q]?) : WR b ad D tc A (w.set a x) H1 := by
  obtain ⟨hP, hD, hF⟩ := hW
  refine ⟨?_, ?_, fun j => by rw [List.length_set, z]; exact hF j⟩
  · rw [cW_set]; exact hP.set hD (cW_get h1) e oq
  · rw [cW_set]; exact hD.set (cW_get h1)
theorem step_sound {pc c0 s0 : Nat} {eo : kO} {L S : List Value} {w : AW} {q : Cfg} {H : Heap} {locs : List Loc} {ls : Array Slot} (C : Cx p R s m args meth c X b D tc A mi) (hm : mi ≤ kN) (hk : kI mi pc = some eo) (hs : stepI X mi pc eo L S w = some q) (hW : WR b ad D tc A w H) (hS : va_S A s.heap H locs) (hL : LOK b ad ls (kM mi).2.2.1 L)
    (hroom : c0 + q.2.2.2.length ≤ R.cells + w.length ∧ s0 + tot q.2.2.2 ≤ R.slots + tot w) (kk : KK p l e R s m args below meth c Q b ad D tc A mi c0 s0 w q) : W p l e R s m args below meth c H locs c0 s0 Q (F0 m pc ls (S.map (cv b ad))) := by
  obtain ⟨hd, hl, hp⟩ := eOK_dec (kI_ok hm hk)
  obtain ⟨hx, hb, hml, hts, hown, hini, hNW, hK, hX, hbl, hbA, hA, hfr, hlo⟩ := C
  obtain ⟨hP, hD, hF⟩ := id hW
  obtain ⟨i, len, a, k, pp, v⟩ := eo
  dsimp only at hd hl
  cases i with
  | iconst n => cases len_of hl (by simp [ilen]); cases hs; exact lv_iconst hx hb hd rfl (kk H locs ls _ _ rfl rfl hW hS hL)
  | bipush n => cases len_of hl (by simp [ilen]); cases hs; exact lv_bipush hx hb hd rfl (kk H locs ls _ _ rfl rfl hW hS hL)
  | sipush n => cases len_of hl (by simp [ilen]); cases hs; exact lv_sipush hx hb hd rfl (kk H locs ls _ _ rfl rfl hW hS hL)
  | lconst n => cases len_of hl (by simp [ilen]); cases hs; exact lv_lconst hx hb hd rfl (kk H locs ls _ _ rfl rfl hW hS hL)
  | ldc n => cases len_of hl (by simp [ilen]); cases hs; exact lv_ldc hx hb hown (hts _ (wAt_in hp)) hd (kk H locs ls _ _ rfl rfl hW hS hL)
  | ldc_w n => cases len_of hl (by simp [ilen]); cases hs; exact lv_ldcw hx hb hown (hts _ (wAt_in hp)) hd (kk H locs ls _ _ rfl rfl hW hS hL)
  | ldc2_w n => cases len_of hl (by simp [ilen]); cases hs; exact lv_ldc2 hx hb hown (hts _ (wAt_in hp)) hd (kk H locs ls _ _ rfl rfl hW hS hL)
  | iload_n n =>
    cases len_of hl (by simp [ilen])
    obtain ⟨v, h1, h2, rfl, h3⟩ := ld_spec hs
    have h4 := hL.2.2.2.1 _ _ h1 h2
    rcases h3 with ⟨-, x, rfl⟩ | ⟨h, -⟩ | ⟨h, -⟩
    · exact lv_iload_n hx hb hd rfl h4 (kk H locs ls _ _ rfl rfl hW hS hL)
    · cases h
    · cases h
  | iload n =>
    cases len_of hl (by simp [ilen])
    obtain ⟨v, h1, h2, rfl, h3⟩ := ld_spec hs
    have h4 := hL.2.2.2.1 _ _ h1 h2
    rcases h3 with ⟨-, x, rfl⟩ | ⟨h, -⟩ | ⟨h, -⟩
    · exact lv_iload hx hb hd h4 (kk H locs ls _ _ rfl rfl hW hS hL)
    · cases h
    · cases h
  | lload_n n =>
    cases len_of hl (by simp [ilen])
    obtain ⟨v, h1, h2, rfl, h3⟩ := ld_spec hs
    have h4 := hL.2.2.2.1 _ _ h1 h2
    rcases h3 with ⟨h, -⟩ | ⟨-, x, rfl⟩ | ⟨h, -⟩
    · cases h
    · exact lv_lload_n hx hb hd rfl h4 (kk H locs ls _ _ rfl rfl hW hS hL)
    · cases h
  | lload n =>
    cases len_of hl (by simp [ilen])
    obtain ⟨v, h1, h2, rfl, h3⟩ := ld_spec hs
    have h4 := hL.2.2.2.1 _ _ h1 h2
    rcases h3 with ⟨h, -⟩ | ⟨-, x, rfl⟩ | ⟨h, -⟩
    · cases h
    · exact lv_lload hx hb hd h4 (kk H locs ls _ _ rfl rfl hW hS hL)
    · cases h
  | aload_n n =>
    cases len_of hl (by simp [ilen])
    obtain ⟨v, h1, h2, rfl, h3⟩ := ld_spec hs
    have h4 := hL.2.2.2.1 _ _ h1 h2
    rcases h3 with ⟨h, -⟩ | ⟨h, -⟩ | ⟨-, ⟨x, rfl⟩ | rfl⟩
    · cases h
    · cases h
    · exact lv_aload_n hx hb hd rfl h4 (kk H locs ls _ _ rfl rfl hW hS hL)
    · exact lv_aload_n hx hb hd rfl h4 (kk H locs ls _ _ rfl rfl hW hS hL)
  | istore_n n =>
    cases len_of hl (by simp [ilen])
    rcases st_spec hs with ⟨-, x, S', L', rfl, h1, rfl⟩ | ⟨h, -⟩ | ⟨h, -⟩
    · exact lv_istore_n hx hb hd rfl hL.has (by rw [← hL.2.2.1]; exact (stL_spec h1).1) rfl (fun ls' h' => kk H locs ls' _ _ rfl rfl hW hS (hL.st1 h1 rfl h'))
    · cases h
    · cases h
  | istore n =>
    cases len_of hl (by simp [ilen])
    rcases st_spec hs with ⟨-, x, S', L', rfl, h1, rfl⟩ | ⟨h, -⟩ | ⟨h, -⟩
    · exact lv_istore hx hb hd hL.has (by rw [← hL.2.2.1]; exact (stL_spec h1).1) rfl (fun ls' h' => kk H locs ls' _ _ rfl rfl hW hS (hL.st1 h1 rfl h'))
    · cases h
    · cases h
  | lstore_n n =>
    cases len_of hl (by simp [ilen])
    rcases st_spec hs with ⟨h, -⟩ | ⟨h, -⟩ | ⟨-, x, S', L', rfl, h1, rfl⟩
    · cases h
    · cases h
    · exact lv_lstore_n hx hb hd rfl hL.has (by rw [← hL.2.2.1]; exact (stL2_spec h1).1) rfl (fun ls' h' => kk H locs ls' _ _ rfl rfl hW hS (hL.st2 h1 h'))
  | lstore n =>
    cases len_of hl (by simp [ilen])
    rcases st_spec hs with ⟨h, -⟩ | ⟨h, -⟩ | ⟨-, x, S', L', rfl, h1, rfl⟩
    · cases h
    · cases h
    · exact lv_lstore hx hb hd hL.has (by rw [← hL.2.2.1]; exact (stL2_spec h1).1) rfl (fun ls' h' => kk H locs ls' _ _ rfl rfl hW hS (hL.st2 h1 h'))
  | astore_n n =>
    cases len_of hl (by simp [ilen])
    rcases st_spec hs with ⟨h, -⟩ | ⟨-, x, S', L', rfl, h1, rfl⟩ | ⟨h, -⟩
    · cases h
    · exact lv_astore_n hx hb hd rfl hL.has (by rw [← hL.2.2.1]; exact (stL_spec h1).1) rfl (fun ls' h' => kk H locs ls' _ _ rfl rfl hW hS (hL.st1 h1 rfl h'))
    · cases h
  | iinc j n =>
    cases len_of hl (by simp [ilen])
    simp only [stepI] at hs
    split at hs
    · rename_i x h1
      cases hs
      obtain ⟨k', hk'⟩ := List.getElem?_of_mem (lvo_in (b := b) (ad := ad).mpr ⟨.int x, h1, rfl, rfl⟩)
      have h2 : stL L j (.int (x + Int32.ofInt n)) = some (L.set j (.int (x + Int32.ofInt n))) := by
        have h3 : Nat.blt j L.length = true := by have := (List.getElem?_eq_some_iff.mp h1).1; simpa using this
        have h4 : L.getD j uns = .int x := by rw [List.getD_eq_getElem?_getD, h1]; rfl
        rw [stL, h3, h4]; rfl
      exact lv_iinc hx hb hd hL.has hk' rfl (by rw [← hL.2.2.1]; exact (stL_spec h2).1) rfl (fun ls' h' => kk H locs ls' _ _ rfl rfl hW hS (hL.st1 h2 rfl h'))
    · cases hs
  | iadd => cases len_of hl (by simp [ilen]); obtain ⟨x, y, S', rfl, rfl⟩ := i2_spec hs; exact lv_iadd hx hb hd (kk H locs ls _ _ rfl rfl hW hS hL)
  | isub => cases len_of hl (by simp [ilen]); obtain ⟨x, y, S', rfl, rfl⟩ := i2_spec hs; exact lv_isub hx hb hd (kk H locs ls _ _ rfl rfl hW hS hL)
  | imul => cases len_of hl (by simp [ilen]); obtain ⟨x, y, S', rfl, rfl⟩ := i2_spec hs; exact lv_imul hx hb hd (kk H locs ls _ _ rfl rfl hW hS hL)
  | iand => cases len_of hl (by simp [ilen]); obtain ⟨x, y, S', rfl, rfl⟩ := i2_spec hs; exact lv_iand hx hb hd (kk H locs ls _ _ rfl rfl hW hS hL)
  | ior => cases len_of hl (by simp [ilen]); obtain ⟨x, y, S', rfl, rfl⟩ := i2_spec hs; exact lv_ior hx hb hd (kk H locs ls _ _ rfl rfl hW hS hL)
  | ixor => cases len_of hl (by simp [ilen]); obtain ⟨x, y, S', rfl, rfl⟩ := i2_spec hs; exact lv_ixor hx hb hd (kk H locs ls _ _ rfl rfl hW hS hL)
  | ishl => cases len_of hl (by simp [ilen]); obtain ⟨x, y, S', rfl, rfl⟩ := i2_spec hs; exact lv_ishl hx hb hd (kk H locs ls _ _ rfl rfl hW hS hL)
  | ishr => cases len_of hl (by simp [ilen]); obtain ⟨x, y, S', rfl, rfl⟩ := i2_spec hs; exact lv_ishr hx hb hd (kk H locs ls _ _ rfl rfl hW hS hL)
  | iushr => cases len_of hl (by simp [ilen]); obtain ⟨x, y, S', rfl, rfl⟩ := i2_spec hs; exact lv_iushr hx hb hd rfl (kk H locs ls _ _ rfl rfl hW hS hL)
  | ladd => cases len_of hl (by simp [ilen]); obtain ⟨x, y, S', rfl, rfl⟩ := l2_spec hs; exact lv_ladd hx hb hd (kk H locs ls _ _ rfl rfl hW hS hL)
  | lsub => cases len_of hl (by simp [ilen]); obtain ⟨x, y, S', rfl, rfl⟩ := l2_spec hs; exact lv_lsub hx hb hd (kk H locs ls _ _ rfl rfl hW hS hL)
  | lmul => cases len_of hl (by simp [ilen]); obtain ⟨x, y, S', rfl, rfl⟩ := l2_spec hs; exact lv_lmul hx hb hd (kk H locs ls _ _ rfl rfl hW hS hL)
  | idiv =>
    cases len_of hl (by simp [ilen])
    simp only [stepI, Bool.cond_eq_ite, decide_eq_true_eq] at hs
    split at hs
    · split at hs
      · cases hs
      · rename_i h; cases hs; exact lv_idiv hx hb hd h (kk H locs ls _ _ rfl rfl hW hS hL)
    · cases hs
  | irem =>
    cases len_of hl (by simp [ilen])
    simp only [stepI, Bool.cond_eq_ite, decide_eq_true_eq] at hs
    split at hs
    · split at hs
      · cases hs
      · rename_i h; cases hs; exact lv_irem hx hb hd h (kk H locs ls _ _ rfl rfl hW hS hL)
    · cases hs
  | ldiv =>
    cases len_of hl (by simp [ilen])
    simp only [stepI, Bool.cond_eq_ite, decide_eq_true_eq] at hs
    split at hs
    · split at hs
      · cases hs
      · rename_i h; cases hs; exact lv_ldiv hx hb hd h (kk H locs ls _ _ rfl rfl hW hS hL)
    · cases hs
  | lrem =>
    cases len_of hl (by simp [ilen])
    simp only [stepI, Bool.cond_eq_ite, decide_eq_true_eq] at hs
    split at hs
    · split at hs
      · cases hs
      · rename_i h; cases hs; exact lv_lrem hx hb hd h (kk H locs ls _ _ rfl rfl hW hS hL)
    · cases hs
  | lcmp =>
    cases len_of hl (by simp [ilen])
    simp only [stepI] at hs
    split at hs
    · cases hs; exact W.lcmp hx hb hd (kk H locs ls _ _ rfl rfl hW hS hL)
    · cases hs
  | i2l =>
    cases len_of hl (by simp [ilen])
    simp only [stepI] at hs
    split at hs
    · cases hs; exact lv_i2l hx hb hd rfl (kk H locs ls _ _ rfl rfl hW hS hL)
    · cases hs
  | l2i =>
    cases len_of hl (by simp [ilen])
    simp only [stepI] at hs
    split at hs
    · cases hs; exact lv_l2i hx hb hd rfl (kk H locs ls _ _ rfl rfl hW hS hL)
    · cases hs
  | dup =>
    cases len_of hl (by simp [ilen])
    simp only [stepI] at hs
    split at hs
    · cases hs; exact lv_dup hx hb hd rfl (kk H locs ls _ _ rfl rfl hW hS hL)
    · cases hs; exact lv_dup hx hb hd rfl (kk H locs ls _ _ rfl rfl hW hS hL)
    · cases hs
  | pop =>
    cases len_of hl (by simp [ilen])
    simp only [stepI] at hs
    split at hs
    · cases hs; exact lv_pop hx hb hd rfl (kk H locs ls _ _ rfl rfl hW hS hL)
    · cases hs
  | dup2 =>
    cases len_of hl (by simp [ilen])
    simp only [stepI] at hs
    split at hs
    · cases hs; exact lv_dup2_11 hx hb hd rfl rfl (kk H locs ls _ _ rfl rfl hW hS hL)
    · cases hs
  | goto off =>
    cases len_of hl (by simp [ilen])
    obtain ⟨h1, rfl⟩ := sw_spec hs
    exact lv_goto hx hb hd h1 (kk H locs ls _ _ rfl rfl hW hS hL)
  | ifCond cn off =>
    cases len_of hl (by simp [ilen])
    simp only [stepI, Bool.cond_eq_ite] at hs
    split at hs
    · split at hs
      · rename_i x S' ht
        have ht := tgt_spec ht
        cases hs
        cases cn
        · refine lv_if_eq hx hb hd ht (fun h => ?_) (fun h => ?_)
          · rw [if_pos (by simp [cmpI, h])] at kk; exact kk H locs ls _ _ rfl rfl hW hS hL
          · rw [if_neg (by simp [cmpI, h])] at kk; exact kk H locs ls _ _ rfl rfl hW hS hL
        · refine lv_if_ne hx hb hd ht (fun h => ?_) (fun h => ?_)
          · rw [if_pos (by simpa [cmpI] using h)] at kk; exact kk H locs ls _ _ rfl rfl hW hS hL
          · rw [if_neg (by simpa [cmpI] using h)] at kk; exact kk H locs ls _ _ rfl rfl hW hS hL
        · refine lv_if_lt hx hb hd ht (fun h => ?_) (fun h => ?_)
          · rw [if_pos (by simpa [cmpI] using h)] at kk; exact kk H locs ls _ _ rfl rfl hW hS hL
          · rw [if_neg (by simpa [cmpI] using h)] at kk; exact kk H locs ls _ _ rfl rfl hW hS hL
        · refine lv_if_ge hx hb hd ht (fun h => ?_) (fun h => ?_)
          · rw [if_pos (by simpa [cmpI] using h)] at kk; exact kk H locs ls _ _ rfl rfl hW hS hL
          · rw [if_neg (by simpa [cmpI] using h)] at kk; exact kk H locs ls _ _ rfl rfl hW hS hL
        · refine lv_if_gt hx hb hd ht (fun h => ?_) (fun h => ?_)
          · rw [if_pos (by simpa [cmpI] using h)] at kk; exact kk H locs ls _ _ rfl rfl hW hS hL
          · rw [if_neg (by simpa [cmpI] using h)] at kk; exact kk H locs ls _ _ rfl rfl hW hS hL
        · refine lv_if_le hx hb hd ht (fun h => ?_) (fun h => ?_)
          · rw [if_pos (by simpa [cmpI] using h)] at kk; exact kk H locs ls _ _ rfl rfl hW hS hL
          · rw [if_neg (by simpa [cmpI] using h)] at kk; exact kk H locs ls _ _ rfl rfl hW hS hL
      · cases hs
    · cases hs
  | if_icmp cn off =>
    cases len_of hl (by simp [ilen])
    simp only [stepI, Bool.cond_eq_ite] at hs
    split at hs
    · split at hs
      · rename_i y x S' ht
        have ht := tgt_spec ht
        cases hs
        cases cn
        · refine lv_icmp_eq hx hb hd ht (fun h => ?_) (fun h => ?_)
          · rw [if_pos (by simp [cmpI, h])] at kk; exact kk H locs ls _ _ rfl rfl hW hS hL
          · rw [if_neg (by simp [cmpI, h])] at kk; exact kk H locs ls _ _ rfl rfl hW hS hL
        · refine lv_icmp_ne hx hb hd ht (fun h => ?_) (fun h => ?_)
          · rw [if_pos (by simpa [cmpI] using h)] at kk; exact kk H locs ls _ _ rfl rfl hW hS hL
          · rw [if_neg (by simpa [cmpI] using h)] at kk; exact kk H locs ls _ _ rfl rfl hW hS hL
        · refine lv_icmp_lt hx hb hd ht (fun h => ?_) (fun h => ?_)
          · rw [if_pos (by simpa [cmpI] using h)] at kk; exact kk H locs ls _ _ rfl rfl hW hS hL
          · rw [if_neg (by simpa [cmpI] using h)] at kk; exact kk H locs ls _ _ rfl rfl hW hS hL
        · refine lv_icmp_ge hx hb hd ht (fun h => ?_) (fun h => ?_)
          · rw [if_pos (by simpa [cmpI] using h)] at kk; exact kk H locs ls _ _ rfl rfl hW hS hL
          · rw [if_neg (by simpa [cmpI] using h)] at kk; exact kk H locs ls _ _ rfl rfl hW hS hL
        · refine lv_icmp_gt hx hb hd ht (fun h => ?_) (fun h => ?_)
          · rw [if_pos (by simpa [cmpI] using h)] at kk; exact kk H locs ls _ _ rfl rfl hW hS hL
          · rw [if_neg (by simpa [cmpI] using h)] at kk; exact kk H locs ls _ _ rfl rfl hW hS hL
        · refine lv_icmp_le hx hb hd ht (fun h => ?_) (fun h => ?_)
          · rw [if_pos (by simpa [cmpI] using h)] at kk; exact kk H locs ls _ _ rfl rfl hW hS hL
          · rw [if_neg (by simpa [cmpI] using h)] at kk; exact kk H locs ls _ _ rfl rfl hW hS hL
      · cases hs
    · cases hs
  | tableswitch d lo hi offs =>
    simp only [stepI, Bool.cond_eq_ite] at hs
    split at hs
    · split at hs
      · rename_i h
        obtain ⟨h1, rfl⟩ := sw_spec hs
        exact lv_tableOut hx hb hd (by simpa using h) h1 (kk H locs ls _ _ rfl rfl hW hS hL)
      · rename_i h
        simp only [Bool.or_eq_true, decide_eq_true_eq, not_or] at h
        split at hs
        · rename_i o ho
          obtain ⟨h1, rfl⟩ := sw_spec hs
          exact lv_tableIn hx hb hd h.1 h.2 ho h1 (kk H locs ls _ _ rfl rfl hW hS hL)
        · cases hs
    · cases hs
  | lookupswitch d ps =>
    simp only [stepI] at hs
    split at hs
    · obtain ⟨h1, rfl⟩ := sw_spec hs
      exact lv_lookup hx hb hd hp rfl h1 (kk H locs ls _ _ rfl rfl hW hS hL)
    · cases hs
  | getfield idx =>
    cases len_of hl (by simp [ilen])
    simp only [stepI, Bool.cond_eq_ite] at hs
    split at hs
    · split at hs
      · rename_i f S' hf
        cases hs
        obtain ⟨fs, h1, h2, h3, -⟩ := fok_spec hf
        simp only [pOK] at hp
        split at hp
        · rename_i r hr
          simp only [Bool.and_eq_true, decide_eq_true_eq] at hp
          obtain ⟨⟨hp1, hp2⟩, hp3⟩ := hp
          have hci : a < 10 := (List.getElem?_eq_some_iff.mp hr).1
          have hc := cOK_lo hci
          simp only [cOK, hr, Bool.and_eq_true] at hc
          have hin : ∀ w ∈ u_ws r.1 r.2.1 r.2.2, w ∈ kWs := fun w hw => by
            have := List.all_eq_true.mp hc.1.1.1.2 w hw
            simp only [Bool.and_eq_true, decide_eq_true_eq] at this
            exact List.mem_filter.mpr this
          refine va_get hx hb hts hin hown hK hP f (cW_get h1) hr k (by simpa using hp1) (hts _ (wAt_in hp2)) (fun x hx => by rw [hp3] at hx; exact hx) (v := cv b ad (fget w f k)) ?_ hd (kk H locs ls _ _ rfl rfl hW hS hL)
          rw [h3, List.getElem?_map, List.getElem?_eq_getElem h2]
          simp [List.getD_eq_getElem?_getD, List.getElem?_eq_getElem h2]
        · cases hp
      · cases hs
    · cases hs
  | putfield idx =>
    cases len_of hl (by simp [ilen])
    simp only [stepI, Bool.cond_eq_ite] at hs
    split at hs
    · split at hs
      · rename_i v' f S' hf
        simp only [Bool.and_eq_true] at hf
        obtain ⟨⟨hf, hf2⟩, hf3⟩ := hf
        cases hs
        obtain ⟨fs, h1, h2, -, h3⟩ := fok_spec hf
        rw [h3] at kk
        simp only [pOK] at hp
        split at hp
        · rename_i r hr
          simp only [Bool.and_eq_true, decide_eq_true_eq] at hp
          obtain ⟨⟨hp1, hp2⟩, hp3⟩ := hp
          have hp1' : k < r.2.2 := by simpa using hp1
          have hci : a < 10 := (List.getElem?_eq_some_iff.mp hr).1
          have hc := cOK_lo hci
          simp only [cOK, hr, Bool.and_eq_true] at hc
          have hin : ∀ w ∈ u_ws r.1 r.2.1 r.2.2, w ∈ kWs := fun w hw => by
            have := List.all_eq_true.mp hc.1.1.1.2 w hw
            simp only [Bool.and_eq_true, decide_eq_true_eq] at this
            exact List.mem_filter.mpr this
          have hty : ∀ k, k < r.2.2 → parseFieldDescriptor (r.2.1 k).2.2.1 = some (fty a k) := fun k hk => by
            have := List.all_eq_true.mp hc.1.1.2 k (List.mem_range.mpr hk)
            simp only [Bool.and_eq_true, decide_eq_true_eq] at this
            exact this.1
          have hnm : ∀ x, x < r.2.2 → ∀ y, y < r.2.2 → x ≠ y → (r.2.1 x).2.1 ≠ (r.2.1 y).2.1 := fun x hx y hy hxy => by
            have := List.all_eq_true.mp (List.all_eq_true.mp hc.1.2 x (List.mem_range.mpr hx)) y (List.mem_range.mpr hy)
            simp only [Bool.or_eq_true, decide_eq_true_eq] at this
            exact this.resolve_left (fun q => hxy (Nat.eq_of_beq_eq_true q))
          obtain ⟨hn, hfit⟩ := okV_spec (b := b) (ad := ad) hf3
          obtain ⟨C, T, N⟩ := r
          dsimp only at hp1' hp2 hp3 hc hin hty hnm
          have hap := va_apart (own := kOwn mi) hts hin (fty a) hty hnm hK hr
          obtain ⟨r', g1, cell, q1, q2, q3, q4⟩ := hP f _ (cW_get h1)
          have hr' : r' = (C, T, N) := Option.some.inj (g1.symm.trans hr)
          subst hr'
          obtain ⟨hSl, hfc, kC, hkC, hkind⟩ := hK.1 a _ hr
          obtain ⟨cf, kf, fi, fd, hi, hsl⟩ := hSl k hp1'
          have hlay := hts _ (hin _ (u_in_lay hp1'))
          have hst := (u_facts hfc hkC (u_lays hts hin hp1') hi).1
          have hsame : s.fieldFound? C (T k).2.1 (T k).2.2.1 = some (cf, kf, fi, fd) := by rw [← hp3]; exact hi
          have hlen : k < (fs.map (cv b ad)).length := by rw [List.length_map]; exact h2
          have hff : ffin a k = (T k).2.2.2 := by simp [ffin, List.getD_eq_getElem?_getD, hr]
          have hend : ∀ H' : Heap, H'[ad f]? = some (cell.setSlot (D.2 a k) (cv b ad v')) → H'.size = H.size → (∀ q, q ≠ ad f → H'[q]? = H[q]?) → W p l e R s m args below meth c H' (locs ++ [⟨ad f, D.2 a k⟩]) c0 s0 Q (F0 m (pc + 3) ls (S'.map (cv b ad))) := fun H' e1 e2 e3 => by
            refine kk H' _ ls _ _ (by simp) (by rw [tot_set h1 (by simp [csz])]) (hW.upd h1 ?_ e2 e3) (hS.put e2 e3 (hD.2 f _ (cW_get h1))) hL
            refine ⟨_, hr, ?_⟩
            rw [show (fs.set k v').map (cv b ad) = (fs.map (cv b ad)).set k (cv b ad v') from List.map_set ..]
            exact t_OB.to (V := updV (vp_V (fs.map (cv b ad))) k (cv b ad v')) ⟨_, e1, q2, q3, t_set q4 hap hp1' (cv b ad v')⟩ (fun j _ => vp_updV_set hlen (cv b ad v') j)
          cases hfin : (T k).2.2.2 with
          | false =>
            unfold u_lay at hlay
            rw [if_neg (by rw [hfin]; decide)] at hlay
            have h6 := u_store hfc hkC hkind hlay hi (hty k hp1') hn hfit
            refine W.putK hx hb (f := fd) ⟨hown, hts _ (wAt_in hp2), ⟨_, _, _, hsame⟩, hst⟩ (by rw [q2]; exact h6) q1 q3 (by rw [hsl]; exact k2_hasslot (q4 k hp1')) rfl rfl hd fun H' e1 e2 e3 => ?_
            rw [hsl] at e1 ⊢
            exact hend H' e1 e2 e3
          | true =>
            unfold u_lay at hlay
            rw [if_pos hfin] at hlay
            rw [okF, hff, hfin] at hf2
            simp only [Bool.not_true, Bool.false_or, Bool.and_eq_true] at hf2
            have hk1 := Nat.eq_of_beq_eq_true hf2.1
            have hk2 := Nat.eq_of_beq_eq_true hf2.2
            have hlt : mi < kN := by
              rcases Nat.lt_or_ge mi kN with q | q
              · exact q
              · have : mi = 168 := Nat.le_antisymm hm q
                subst this
                exact absurd hk2 (by decide)
            have hC : C = kOwn mi := by
              have hmo := mOK_lo hlt
              simp only [mOK, hk1, hr, Bool.and_eq_true, decide_eq_true_eq] at hmo
              exact hmo.2
            have hcf : m.cls = cf := by
              obtain ⟨_, _, c', _, _, _, -, -, hf', -, -, -, hown2, -⟩ := Cond.laysFinal_spec hlay
              have e1 : c' = cf := by have := hi.symm.trans hf'; simp at this; exact this.1.symm
              rw [hp3, hC] at hown2
              rw [← e1]; exact Option.some.inj (hown.symm.trans hown2)
            have h6 := u_fits hfc hkC hkind (Or.inr hlay) hi (hty k hp1') hn hfit
            refine W.putFinK hx hb hown (hts _ (wAt_in hp2)) hsame hst hcf (hini hk2) (by rw [q2]; exact h6) q1 q3 (by rw [hsl]; exact k2_hasslot (q4 k hp1')) rfl rfl hd fun H' e1 e2 e3 => ?_
            rw [hsl] at e1 ⊢
            exact hend H' e1 e2 e3
        · cases hp
      · cases hs
    · cases hs
  | iaload =>
    cases len_of hl (by simp [ilen])
    simp only [stepI, Bool.cond_eq_ite] at hs
    split at hs
    · split at hs
      · rename_i hf
        simp only [Bool.and_eq_true] at hf
        cases hs
        obtain ⟨n, g, h1, h2, h3, -⟩ := aok_spec hf.1
        rw [h2] at kk
        exact va_iald hx hb hK hP _ 0 (cW_get h1) rfl (inB_spec (by rw [← h3]; exact hf.2)) hd (kk H locs ls _ _ rfl rfl hW hS hL)
      · cases hs
    · split at hs
      · rename_i hf
        simp only [Bool.and_eq_true] at hf
        cases hs
        exact va_sld hx hb hX hbl hbA hS (inB_spec hf.2) hd (kk H locs ls _ _ rfl rfl hW hS hL)
      · cases hs
    · cases hs
  | baload =>
    cases len_of hl (by simp [ilen])
    simp only [stepI, Bool.cond_eq_ite] at hs
    split at hs
    · split at hs
      · rename_i hf
        simp only [Bool.and_eq_true] at hf
        cases hs
        obtain ⟨n, g, h1, h2, h3, -⟩ := zok_spec hf.1
        rw [h2] at kk
        exact va_zald hx hb hK hP _ 2 (cW_get h1) rfl (inB_spec (by rw [← h3]; exact hf.2)) hd (kk H locs ls _ _ rfl rfl hW hS hL)
      · cases hs
    · cases hs
  | laload =>
    cases len_of hl (by simp [ilen])
    simp only [stepI, Bool.cond_eq_ite] at hs
    split at hs
    · split at hs
      · rename_i hf
        simp only [Bool.and_eq_true] at hf
        cases hs
        obtain ⟨n, g, h1, h2, h3, -⟩ := jok_spec hf.1
        rw [h2] at kk
        exact va_lald hx hb hK hP _ 1 (cW_get h1) rfl (inB_spec (by rw [← h3]; exact hf.2)) hd (kk H locs ls _ _ rfl rfl hW hS hL)
      · cases hs
    · cases hs
  | iastore =>
    cases len_of hl (by simp [ilen])
    simp only [stepI, Bool.cond_eq_ite] at hs
    split at hs
    · split at hs
      · rename_i x i a S' hf
        simp only [Bool.and_eq_true] at hf
        cases hs
        obtain ⟨n, g, h1, h2, h3, h4⟩ := aok_spec hf.1
        rw [h4, h2] at kk
        have hin := inB_spec hf.2
        rw [h3] at hin
        refine W.iast hx hb (hP a _ (cW_get h1)) ((hK.2 0 _ rfl).1 n (fun j => .int (g j))) (fun q => by cases q) (by show ¬ (i < 0 ∨ (arrV _ _ _).slots.size ≤ _); rw [arrV_size]; exact hin) rfl rfl hd fun H1 e z oq => ?_
        refine kk H1 _ ls _ _ (by simp) (by show s0 + tot w = s0 + tot (w.set a _); rw [tot_set h1]; rfl) (hW.upd h1 ?_ z oq) (hS.put z oq (hD.2 a _ (cW_get h1))) hL
        show H1[ad a]? = some (vp_cell _ _)
        rw [e]
        show some ((vp_cell _ _).setSlot _ _) = _
        rw [vp_cell_i, vp_cell_i, arrV_store]
        congr 2
        funext q
        by_cases hq : q = i.toNatClampNeg
        · subst hq
          simp [updV, upd]
          try rfl
        · simp [updV, upd, hq]
      · cases hs
    · cases hs
  | bastore =>
    cases len_of hl (by simp [ilen])
    simp only [stepI, Bool.cond_eq_ite] at hs
    split at hs
    · split at hs
      · rename_i x i a S' hf
        simp only [Bool.and_eq_true] at hf
        cases hs
        obtain ⟨n, g, h1, h2, h3, h4⟩ := zok_spec hf.1
        rw [h4, h2] at kk
        have hin := inB_spec hf.2
        rw [h3] at hin
        refine W.zast hx hb (hP a _ (cW_get h1)) ((hK.2 2 _ rfl).1 n (fun j => .int (g j))) (fun q => by cases q) (by show ¬ (i < 0 ∨ (arrV _ _ _).slots.size ≤ _); rw [arrV_size]; exact hin) rfl rfl hd fun H1 e z oq => ?_
        refine kk H1 _ ls _ _ (by simp) (by show s0 + tot w = s0 + tot (w.set a _); rw [tot_set h1]; rfl) (hW.upd h1 ?_ z oq) (hS.put z oq (hD.2 a _ (cW_get h1))) hL
        show H1[ad a]? = some (vp_cell _ _)
        rw [e]
        show some ((vp_cell _ _).setSlot _ _) = _
        rw [vp_cell_i, vp_cell_i, arrV_store]
        congr 2
        funext q
        by_cases hq : q = i.toNatClampNeg
        · subst hq
          simp [updV, upd]
          try rfl
        · simp [updV, upd, hq]
      · cases hs
    · cases hs
  | lastore =>
    cases len_of hl (by simp [ilen])
    simp only [stepI, Bool.cond_eq_ite] at hs
    split at hs
    · split at hs
      · rename_i x i a S' hf
        simp only [Bool.and_eq_true] at hf
        cases hs
        obtain ⟨n, g, h1, h2, h3, h4⟩ := jok_spec hf.1
        rw [h4, h2] at kk
        have hin := inB_spec hf.2
        rw [h3] at hin
        refine W.last hx hb (hP a _ (cW_get h1)) ((hK.2 1 _ rfl).1 n (fun j => .long (g j))) (fun q => by cases q) (by show ¬ (i < 0 ∨ (arrV _ _ _).slots.size ≤ _); rw [arrV_size]; exact hin) rfl rfl hd fun H1 e z oq => ?_
        refine kk H1 _ ls _ _ (by simp) (by show s0 + tot w = s0 + tot (w.set a _); rw [tot_set h1]; rfl) (hW.upd h1 ?_ z oq) (hS.put z oq (hD.2 a _ (cW_get h1))) hL
        show H1[ad a]? = some (vp_cell _ _)
        rw [e]
        show some ((vp_cell _ _).setSlot _ _) = _
        rw [vp_cell_l, vp_cell_l, arrV_store]
        congr 2
        funext q
        by_cases hq : q = i.toNatClampNeg
        · subst hq
          simp [updV, vp_updL]
          try rfl
        · simp [updV, vp_updL, hq]
      · cases hs
    · cases hs
  | arraylength =>
    cases len_of hl (by simp [ilen])
    simp only [stepI, Bool.cond_eq_ite] at hs
    split at hs
    · split at hs
      · rename_i a S' hf
        cases hs
        unfold arr at hf
        split at hf
        · rename_i y he
          obtain ⟨ty, y⟩ := y
          have hv : alen w a = y.1 := by simp [alen, he]
          rw [hv] at kk
          simp only [Bool.or_eq_true, beq_iff_eq] at hf
          rcases hf with (rfl | rfl) | rfl
          · exact va_alen hx hb hK hP a 0 (cW_get he) rfl rfl hd (kk H locs ls _ _ rfl rfl hW hS hL)
          · exact va_alen hx hb hK hP a 1 (cW_get he) rfl rfl hd (kk H locs ls _ _ rfl rfl hW hS hL)
          · exact va_alen hx hb hK hP a 2 (cW_get he) rfl rfl hd (kk H locs ls _ _ rfl rfl hW hS hL)
        · cases hf
      · cases hs
    · split at hs
      · cases hs
        exact va_slen hx hb hX hbl hbA hS hd (kk H locs ls _ _ rfl rfl hW hS hL)
      · cases hs
    · cases hs
  | newarray t =>
    cases len_of hl (by simp [ilen])
    simp only [stepI, Bool.cond_eq_ite] at hs
    split at hs
    · rename_i n S'
      split at hs
      · rename_i hf
        simp only [Option.map_eq_some_iff] at hs
        obtain ⟨x, hx1, rfl⟩ := hs
        have hn := vp_in_iff.mp (inB_spec hf)
        have hn0 : ¬ n < 0 := fun q => (inB_spec hf) (Or.inl q)
        have hn1 : n.toNatClampNeg < 4000 := Nat.not_le.mp fun q => (inB_spec hf) (Or.inr q)
        have h0 : ad w.length = H.size := hF 0
        have harr : wAt kArr.1 (.arrayClass .int) = true ∧ wAt kArr.2.1 (.arrayClass .long) = true ∧ wAt kArr.2.2 (.arrayClass .boolean) = true := by
          have := arr_all
          simp only [Bool.and_eq_true] at this
          exact ⟨this.1.1, this.1.2, this.2⟩
        have hsz : csz x = n.toNatClampNeg := by cases t <;> simp [newA] at hx1 <;> subst hx1 <;> rfl
        have hr1 : c0 + 1 ≤ R.cells := by have := hroom.1; simp only [List.length_append, List.length_singleton] at this; omega
        have hr2 : s0 + n.toNatClampNeg ≤ R.slots := by have := hroom.2; rw [tot_push, hsz] at this; omega
        have hgo : ∀ (H' : Heap), H'.size = H.size + 1 → (∀ q, q < H.size → H'[q]? = H[q]?) → va_at D vwCl (H.size, cE tc b ad x) H' → W p l e R s m args below meth c H' locs (c0 + 1) (s0 + n.toNatClampNeg) Q (F0 m (pc + 2) ls (.ref H.size :: S'.map (cv b ad))) := fun H' z1 o1 hc => by
          obtain ⟨hW', hS'⟩ := hW.push hS hA z1 o1 hc
          have := kk H' locs ls (c0 + 1) (s0 + n.toNatClampNeg) (by simp; omega) (by rw [tot_push, hsz]; omega) hW' hS' hL
          simp only [List.map_cons, cv, h0] at this
          exact this
        cases t <;> simp [newA] at hx1
        · subst hx1
          refine va_newaK (atype := .boolean) hx hb (hts _ (wAt_in harr.2.2)) rfl hd rfl hn0 rfl (by show n.toNatClampNeg * 1 ≤ _; omega) hr1 hr2 rfl fun H' cA e1 z1 o1 hAr hNm => ?_
          have hcA : cA = tc .boolean := Option.some.inj (hNm.symm.trans (hK.2 2 _ rfl).2)
          subst hcA
          exact hgo H' z1 o1 e1
        · subst hx1
          refine va_newaK (atype := .int) hx hb (hts _ (wAt_in harr.1)) rfl hd rfl hn0 rfl (by show n.toNatClampNeg * 4 ≤ _; omega) hr1 hr2 rfl fun H' cA e1 z1 o1 hAr hNm => ?_
          have hcA : cA = tc .int := Option.some.inj (hNm.symm.trans (hK.2 0 _ rfl).2)
          subst hcA
          exact hgo H' z1 o1 e1
        · subst hx1
          refine va_newaK (atype := .long) hx hb (hts _ (wAt_in harr.2.1)) rfl hd rfl hn0 rfl (by show n.toNatClampNeg * 8 ≤ _; omega) hr1 hr2 rfl fun H' cA e1 z1 o1 hAr hNm => ?_
          have hcA : cA = tc .long := Option.some.inj (hNm.symm.trans (hK.2 1 _ rfl).2)
          subst hcA
          exact hgo H' z1 o1 e1
      · cases hs
    · cases hs
  | new idx =>
    cases len_of hl (by simp [ilen])
    simp only [stepI] at hs
    cases hs
    simp only [pOK] at hp
    split at hp
    · rename_i r hr
      obtain ⟨C, T, N⟩ := r
      have hci : a < 10 := (List.getElem?_eq_some_iff.mp hr).1
      have hc := cOK_lo hci
      simp only [cOK, hr, Bool.and_eq_true] at hc
      obtain ⟨⟨⟨⟨⟨hc1, hc2⟩, hc3⟩, hc4⟩, hc5⟩, hc6⟩ := hc
      have hin : ∀ w ∈ u_ws C T N, w ∈ kWs := fun w hw => by
        have := List.all_eq_true.mp hc3 w hw
        simp only [Bool.and_eq_true, decide_eq_true_eq] at this
        exact List.mem_filter.mpr this
      have hty : ∀ k, k < N → parseFieldDescriptor (T k).2.2.1 = some (fty a k) ∧ defaultValue (fty a k) = vp_V (kD a).2.2 k := fun k hk => by
        have := List.all_eq_true.mp hc4 k (List.mem_range.mpr hk)
        simp only [Bool.and_eq_true, decide_eq_true_eq] at this
        exact this
      have hN : (kD a).2.2.length = N := Nat.eq_of_beq_eq_true hc6
      have h0 : ad w.length = H.size := hF 0
      have hKn := hK.1 a _ hr
      have hr1 : c0 + 1 ≤ R.cells := by have := hroom.1; simp only [List.length_append, List.length_singleton] at this; omega
      have hr2 : s0 + N ≤ R.slots := by have := hroom.2; rw [tot_push] at this; simp only [csz, hN] at this; omega
      refine W.newcK hx hb hown (hts _ (wAt_in hp)) (hts _ (wAt_in hc1)) (hts _ (wAt_in hc2)) rfl hd hr1 hr2 hKn.2.1 rfl fun H1 kC hkC e1 z1 o1 => ?_
      have hcv : (kD a).2.2.map (cv b ad) = (kD a).2.2 := by
        have hall : ∀ ci : Nat, ci < 10 → (kD ci).2.2.all (fun v => match v with | .int _ => true | .null => true | _ => false) = true := by decide
        have h1 := hall a hci
        have h2 : ∀ v ∈ (kD a).2.2, cv b ad v = id v := fun v hv => by
          have := List.all_eq_true.mp h1 v hv
          cases v <;> first | rfl | (simp at this)
        rw [List.map_congr_left h2, List.map_id]
      obtain ⟨hW', hS'⟩ := hW.push (x := .inr (a, (kD a).2.2)) hS hA z1 o1 ⟨_, hr, by
        rw [hcv]
        exact (u_born (fty a) hts hin hKn hkC e1 (fun k hk => (hty k hk).1)).to (fun k hk => (hty k hk).2)⟩
      have := kk H1 locs ls (c0 + 1) (s0 + N) (by simp; omega) (by rw [tot_push]; simp only [csz, hN]; omega) hW' hS' hL
      simp only [List.map_cons, cv, h0] at this
      exact this
    · cases hp
  | _ => simp [stepI] at hs
end SND
