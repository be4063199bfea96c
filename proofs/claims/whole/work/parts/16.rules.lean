/-! Rules: one instruction as an equation of Z, with what it asks -/
section RUL
variable {X : Scr} {mi pc : Nat} {L S : List Value} {w : AW} {e : kO}
theorem Z_stp {pc' : Nat} {L' S' : List Value} {w' : AW} (hk : kI mi pc = some e) (hs : stepI X mi pc e L S w = some (pc', L', S', w')) : Z X mi pc L S w = Z X mi pc' L' S' w' := Z_step hk hs
theorem zr_sti {x : Int32} {i pc' : Nat} (hk : kI mi pc = some e) (hs : stepI X mi pc e L (.int x :: S) w = (stL L i (.int x)).map (fun L => (pc', L, S, w))) (hl : Nat.blt i L.length = true) (h : isSec (L.getD i uns) = false) : Z X mi pc L (.int x :: S) w = Z X mi pc' (L.set i (.int x)) S w :=
  Z_stp hk (by rw [hs]; simp only [stL, hl, h, Bool.not_false, Bool.and_self, cond_true, Option.map_some])
theorem zr_str {x : Nat} {i pc' : Nat} (hk : kI mi pc = some e) (hs : stepI X mi pc e L (.ref x :: S) w = (stL L i (.ref x)).map (fun L => (pc', L, S, w))) (hl : Nat.blt i L.length = true) (h : isSec (L.getD i uns) = false) : Z X mi pc L (.ref x :: S) w = Z X mi pc' (L.set i (.ref x)) S w :=
  Z_stp hk (by rw [hs]; simp only [stL, hl, h, Bool.not_false, Bool.and_self, cond_true, Option.map_some])
theorem zr_stl {x : Int64} {i pc' : Nat} (hk : kI mi pc = some e) (hs : stepI X mi pc e L (.long x :: S) w = (stL2 L i (.long x)).map (fun L => (pc', L, S, w))) (hl : Nat.blt (i + 1) L.length = true) (h : isSec (L.getD i uns) = false) : Z X mi pc L (.long x :: S) w = Z X mi pc' ((L.set i (.long x)).set (i + 1) sec) S w :=
  Z_stp hk (by rw [hs]; simp only [stL2, hl, h, Bool.not_false, Bool.and_self, cond_true, Option.map_some])
theorem zr_idiv {x y : Int32} (hk : kI mi pc = some e) (he : e.1 = .idiv) (h : y ≠ 0) : Z X mi pc L (.int y :: .int x :: S) w = Z X mi (pc + 1) L (.int (x / y) :: S) w :=
  Z_stp hk (by simp only [stepI, he, h, decide_false, cond_false])
theorem zr_irem {x y : Int32} (hk : kI mi pc = some e) (he : e.1 = .irem) (h : y ≠ 0) : Z X mi pc L (.int y :: .int x :: S) w = Z X mi (pc + 1) L (.int (x - x / y * y) :: S) w :=
  Z_stp hk (by simp only [stepI, he, h, decide_false, cond_false])
theorem zr_ldiv {x y : Int64} (hk : kI mi pc = some e) (he : e.1 = .ldiv) (h : y ≠ 0) : Z X mi pc L (.long y :: .long x :: S) w = Z X mi (pc + 1) L (.long (x / y) :: S) w :=
  Z_stp hk (by simp only [stepI, he, h, decide_false, cond_false])
theorem zr_lrem {x y : Int64} (hk : kI mi pc = some e) (he : e.1 = .lrem) (h : y ≠ 0) : Z X mi pc L (.long y :: .long x :: S) w = Z X mi (pc + 1) L (.long (x - x / y * y) :: S) w :=
  Z_stp hk (by simp only [stepI, he, h, decide_false, cond_false])
theorem zr_if {x : Int32} {c : ClassFile.Cond} {off : Int} {t : Nat} {P : Prop} [Decidable P] (hk : kI mi pc = some e) (he : e.1 = .ifCond c off) (hto : tgtOk pc off = true) (ht : tgt pc off = t) (hc : cmpI c x 0 = decide P) : Z X mi pc L (.int x :: S) w = if P then Z X mi t L S w else Z X mi (pc + 3) L S w := by
  by_cases h : P
  · rw [if_pos h, ← ht]
    exact Z_stp hk (by simp only [stepI, he, hto, hc, h, decide_true, cond_true])
  · rw [if_neg h]
    exact Z_stp hk (by simp only [stepI, he, hto, hc, h, decide_false, cond_true, cond_false])
theorem zr_icmp {x y : Int32} {c : ClassFile.Cond} {off : Int} {t : Nat} {P : Prop} [Decidable P] (hk : kI mi pc = some e) (he : e.1 = .if_icmp c off) (hto : tgtOk pc off = true) (ht : tgt pc off = t) (hc : cmpI c x y = decide P) : Z X mi pc L (.int y :: .int x :: S) w = if P then Z X mi t L S w else Z X mi (pc + 3) L S w := by
  by_cases h : P
  · rw [if_pos h, ← ht]
    exact Z_stp hk (by simp only [stepI, he, hto, hc, h, decide_true, cond_true])
  · rw [if_neg h]
    exact Z_stp hk (by simp only [stepI, he, hto, hc, h, decide_false, cond_true, cond_false])
theorem zr_tsw {x : Int32} {d lo hi : Int} {offs : Array Int} {t : Nat} (hk : kI mi pc = some e) (he : e.1 = .tableswitch d lo hi offs) (hto : tgtOk pc d = true) (ht : tgt pc d = t) (h : (decide (x.toInt < lo) || decide (hi < x.toInt)) = true) : Z X mi pc L (.int x :: S) w = Z X mi t L S w := by
  rw [← ht]
  exact Z_stp hk (by simp only [stepI, he, h, cond_true, sw, hto])
theorem zr_lsw {x : Int32} {d off : Int} {ps : Array (Int × Int)} {t : Nat} (hk : kI mi pc = some e) (he : e.1 = .lookupswitch d ps) (hto : tgtOk pc off = true) (ht : tgt pc off = t) (h : Op.lookupswitch.offset ps.toList d x.toInt = off) : Z X mi pc L (.int x :: S) w = Z X mi t L S w := by
  rw [← ht]
  exact Z_stp hk (by simp only [stepI, he, h, cond_true, sw, hto])
theorem zr_get {f i : Nat} (hk : kI mi pc = some e) (he : e.1 = .getfield i) (h : fok w f e.2.2.1 e.2.2.2.1 = true) : Z X mi pc L (.ref f :: S) w = Z X mi (pc + 3) L (fget w f e.2.2.2.1 :: S) w :=
  Z_stp hk (by simp only [stepI, he, h, cond_true])
theorem zr_put {f i : Nat} {v : Value} (hk : kI mi pc = some e) (he : e.1 = .putfield i) (h : fok w f e.2.2.1 e.2.2.2.1 = true) (h1 : okF e.2.2.1 e.2.2.2.1 mi = true) (h2 : okV (fty e.2.2.1 e.2.2.2.1) v = true) : Z X mi pc L (v :: .ref f :: S) w = Z X mi (pc + 3) L S (fset w f e.2.2.2.1 v) :=
  Z_stp hk (by simp only [stepI, he, h, h1, h2, Bool.and_self, cond_true])
theorem zr_iald {a : Nat} {i : Int32} (hk : kI mi pc = some e) (he : e.1 = .iaload) (h : aok w a = true) (h2 : inB i (alen w a) = true) : Z X mi pc L (.int i :: .ref a :: S) w = Z X mi (pc + 1) L (.int (aget w a i.toNatClampNeg) :: S) w :=
  Z_stp hk (by simp only [stepI, he, h, h2, Bool.and_self, cond_true])
theorem zr_sald {i : Int32} (hk : kI mi pc = some e) (he : e.1 = .iaload) (h2 : inB i X.1 = true) : Z X mi pc L (.int i :: .retAddr 0 :: S) w = Z X mi (pc + 1) L (.int (X.2 i.toNatClampNeg) :: S) w :=
  Z_stp hk (by simp only [stepI, he, h2, Nat.beq, Bool.and_self, cond_true])
theorem zr_iast {a : Nat} {i x : Int32} (hk : kI mi pc = some e) (he : e.1 = .iastore) (h : aok w a = true) (h2 : inB i (alen w a) = true) : Z X mi pc L (.int x :: .int i :: .ref a :: S) w = Z X mi (pc + 1) L S (aset w a (upd (aget w a) i.toNatClampNeg x)) :=
  Z_stp hk (by simp only [stepI, he, h, h2, Bool.and_self, cond_true])
theorem zr_bald {a : Nat} {i : Int32} (hk : kI mi pc = some e) (he : e.1 = .baload) (h : zok w a = true) (h2 : inB i (alen w a) = true) : Z X mi pc L (.int i :: .ref a :: S) w = Z X mi (pc + 1) L (.int (aget w a i.toNatClampNeg) :: S) w :=
  Z_stp hk (by simp only [stepI, he, h, h2, Bool.and_self, cond_true])
theorem zr_bast {a : Nat} {i x : Int32} (hk : kI mi pc = some e) (he : e.1 = .bastore) (h : zok w a = true) (h2 : inB i (alen w a) = true) : Z X mi pc L (.int x :: .int i :: .ref a :: S) w = Z X mi (pc + 1) L S (aset w a (upd (aget w a) i.toNatClampNeg (x &&& 1))) :=
  Z_stp hk (by simp only [stepI, he, h, h2, Bool.and_self, cond_true])
theorem zr_lald {a : Nat} {i : Int32} (hk : kI mi pc = some e) (he : e.1 = .laload) (h : jok w a = true) (h2 : inB i (alen w a) = true) : Z X mi pc L (.int i :: .ref a :: S) w = Z X mi (pc + 1) L (.long (jget w a i.toNatClampNeg) :: S) w :=
  Z_stp hk (by simp only [stepI, he, h, h2, Bool.and_self, cond_true])
theorem zr_last {a : Nat} {i : Int32} {x : Int64} (hk : kI mi pc = some e) (he : e.1 = .lastore) (h : jok w a = true) (h2 : inB i (alen w a) = true) : Z X mi pc L (.long x :: .int i :: .ref a :: S) w = Z X mi (pc + 1) L S (jset w a (vp_updL (jget w a) i.toNatClampNeg x)) :=
  Z_stp hk (by simp only [stepI, he, h, h2, Bool.and_self, cond_true])
theorem zr_alen {a : Nat} (hk : kI mi pc = some e) (he : e.1 = .arraylength) (h : arr w a = true) : Z X mi pc L (.ref a :: S) w = Z X mi (pc + 1) L (.int (Int32.ofNat (alen w a)) :: S) w :=
  Z_stp hk (by simp only [stepI, he, h, cond_true])
theorem zr_newa {n : Int32} {t : ClassFile.ArrayType} {c : AC} (hk : kI mi pc = some e) (he : e.1 = .newarray t) (h : inB n 4000 = true) (hc : newA t n.toNatClampNeg = some c) : Z X mi pc L (.int n :: S) w = Z X mi (pc + 2) L (.ref w.length :: S) (w ++ [c]) :=
  Z_stp hk (by simp only [stepI, he, h, hc, cond_true, Option.map_some])
theorem ble4 (h : S.length ≤ 4) : Nat.ble S.length 4 = true := Nat.ble_eq_true_of_le h
theorem zr_obj {f i : Nat} (hk : kI mi pc = some e) (he : e.1 = .invokespecial i) (ha : e.2.2.1 = 6) (h : S.length ≤ 4) : Z X mi pc L (.ref f :: S) w = Z X mi (pc + 3) L S w :=
  Z_go hk (by simp only [stepI, he]) (by simp only [callE, he, ha, Nat.beq, cond_true, ble4 h])
theorem zr_mmax {x y : Int32} {i : Nat} (hk : kI mi pc = some e) (he : e.1 = .invokestatic i) (ha : e.2.2.1 = 8) (h : S.length ≤ 4) : Z X mi pc L (.int y :: .int x :: S) w = Z X mi (pc + 3) L (.int (if x < y then y else x) :: S) w :=
  Z_go hk (by simp only [stepI, he]) (by simp only [callE, he, ha, Nat.beq, cond_true, cond_false, ble4 h])
theorem zr_mmin {x y : Int32} {i : Nat} (hk : kI mi pc = some e) (he : e.1 = .invokestatic i) (ha : e.2.2.1 = 9) (h : S.length ≤ 4) : Z X mi pc L (.int y :: .int x :: S) w = Z X mi (pc + 3) L (.int (if y < x then y else x) :: S) w :=
  Z_go hk (by simp only [stepI, he]) (by simp only [callE, he, ha, Nat.beq, cond_true, cond_false, ble4 h])
theorem zr_cpy {a a0 i : Nat} {n dp sp : Int32} (hk : kI mi pc = some e) (he : e.1 = .invokestatic i) (ha : e.2.2.1 = 7) (h : S.length ≤ 4) (g1 : aok w a0 = true) (g2 : aok w a = true) (g3 : 0 ≤ sp.toInt) (g4 : 0 ≤ dp.toInt) (g5 : 0 ≤ n.toInt) (g6 : sp.toNatClampNeg + n.toNatClampNeg ≤ alen w a0) (g7 : dp.toNatClampNeg + n.toNatClampNeg ≤ alen w a) :
    Z X mi pc L (.int n :: .int dp :: .ref a :: .int sp :: .ref a0 :: S) w = Z X mi (pc + 3) L S (aset w a (va_cpy (aget w a0) (aget w a) sp.toNatClampNeg dp.toNatClampNeg n.toNatClampNeg)) :=
  Z_go hk (by simp only [stepI, he]) (by simp only [callE, he, ha, Nat.beq, cond_true, ble4 h, g1, g2, g3, g4, g5, decide_true, Nat.ble_eq_true_of_le g6, Nat.ble_eq_true_of_le g7, Bool.and_self])
theorem zr_cv {i o : Nat} {As S1 St : List Value} {Av : List Value} (hk : kI mi pc = some e) (he : e.1 = .invokevirtual i) (ha : e.2.2.1 = 0) (ht : tk (kR e.2.2.2.1).2.2.1 St = some (Av, .ref o :: S1) ∧ As = .ref o :: Av) (h : S1.length ≤ 4) (hc : cok w o (kR e.2.2.2.1).2.2.2.1 = true) (hl : Nat.ble (locs2 As).length (kM e.2.2.2.1).2.2.1 = true) :
    Z X mi pc L St w = (Z X e.2.2.2.1 0 (entryL (kM e.2.2.2.1).2.2.1 As) [] w).bind (fun q => Z X mi (pc + 3) L (q.1.toList ++ S1) q.2) := by
  obtain ⟨ht, rfl⟩ := ht
  exact Z_call hk (by simp only [stepI, he]) (by simp only [callE, he, ha, ht, hc, hl, ble4 h, Nat.beq, Bool.and_self, cond_true])
theorem zr_cs {i : Nat} {As S1 St : List Value} (hk : kI mi pc = some e) (he : e.1 = .invokestatic i) (ha : (e.2.2.1 = 1 ∨ e.2.2.1 = 4)) (ht : tk (kR e.2.2.2.1).2.2.1 St = some (As, S1)) (h : S1.length ≤ 4) (hl : Nat.ble (locs2 As).length (kM e.2.2.2.1).2.2.1 = true) :
    Z X mi pc L St w = (Z X e.2.2.2.1 0 (entryL (kM e.2.2.2.1).2.2.1 As) [] w).bind (fun q => Z X mi (pc + 3) L (q.1.toList ++ S1) q.2) := by
  rcases ha with ha | ha <;> exact Z_call hk (by simp only [stepI, he]) (by simp only [callE, he, ha, ht, hl, ble4 h, Nat.beq, Bool.and_self, Bool.or_true, Bool.true_or, Bool.or_false, Bool.false_or, cond_true, cond_false])
theorem zr_ci {i o : Nat} {As S1 St : List Value} {Av : List Value} (hk : kI mi pc = some e) (he : e.1 = .invokespecial i) (ha : (e.2.2.1 = 2 ∨ e.2.2.1 = 5)) (ht : tk (kR e.2.2.2.1).2.2.1 St = some (Av, .ref o :: S1) ∧ As = .ref o :: Av) (h : S1.length ≤ 4) (hl : Nat.ble (locs2 As).length (kM e.2.2.2.1).2.2.1 = true) :
    Z X mi pc L St w = (Z X e.2.2.2.1 0 (entryL (kM e.2.2.2.1).2.2.1 As) [] w).bind (fun q => Z X mi (pc + 3) L (q.1.toList ++ S1) q.2) := by
  obtain ⟨ht, rfl⟩ := ht
  rcases ha with ha | ha <;> exact Z_call hk (by simp only [stepI, he]) (by simp only [callE, he, ha, ht, hl, ble4 h, Nat.beq, Bool.and_self, Bool.or_true, Bool.true_or, Bool.or_false, Bool.false_or, cond_true, cond_false])
theorem zr_retz {x : Int32} (hk : kI mi pc = some e) (he : e.1 = .ireturn) (hr : (kM mi).2.2.2 = some .boolean) (h : (x == 0 || x == 1) = true) : Z X mi pc L [.int x] w = some (some (.int x), w) :=
  Z_ret hk (by simp only [stepI, he]) (by simp only [callE, he]) (by simp only [retI, he, hr, okR, h, cond_true])
end RUL
