/-! one call of the law -/
theorem ev_ret (X : Scr) : ∀ (n mi pc : Nat) (L S : List Value) (w w' : AW) (v : Value), ev X n mi pc L S w = some (some v, w') → okR (kM mi).2.2.2 v = true := by
  intro n
  induction n with
  | zero => intro mi pc L S w w' v h; simp [ev] at h
  | succ n ih =>
    intro mi pc L S w w' v h
    rw [ev] at h
    cases hk : kI mi pc with
    | none => rw [hk] at h; simp at h
    | some e =>
      rw [hk] at h
      dsimp only at h
      cases hs : stepI X mi pc e L S w with
      | some c => rw [hs] at h; exact ih _ _ _ _ _ _ _ h
      | none =>
        rw [hs] at h
        dsimp only at h
        cases hc : callE e S w with
        | some c =>
          obtain ⟨o, S1, w1⟩ := c
          rw [hc] at h
          cases o with
          | none => exact ih _ _ _ _ _ _ _ h
          | some ya =>
            obtain ⟨y, As⟩ := ya
            dsimp only at h
            cases hy : ev X n y 0 (entryL (kM y).2.2.1 As) [] w1 with
            | none => rw [hy] at h; simp at h
            | some r => rw [hy] at h; exact ih _ _ _ _ _ _ _ h
        | none =>
          rw [hc] at h
          dsimp only at h
          cases hr : retI mi e S with
          | none => rw [hr] at h; simp at h
          | some r =>
            rw [hr] at h
            simp only [Option.some.injEq, Prod.mk.injEq] at h
            rw [h.1] at hr
            obtain ⟨i, rest⟩ := e
            cases i <;> first | (simp [retI] at hr; done) | skip
            all_goals (simp only [retI, Bool.cond_eq_ite] at hr; repeat' (split at hr))
            all_goals first | (simp at hr; done) | (rename_i hq; simp only [Option.some.injEq] at hr; rw [← hr]; exact hq) | skip
/-- no object is made another's -/
def gro (w w' : AW) : Prop := ∀ o c, cok w o c = true → cok w' o c = true
theorem gro_rf {w : AW} : gro w w := fun _ _ h => h
theorem gro_tr {a b c : AW} (h : gro a b) (h' : gro b c) : gro a c := fun o k z => h' o k (h o k z)
theorem gro_e {w w' : AW} (h : w' = w) : gro w w' := by rw [h]; exact gro_rf
theorem gro_f {w : AW} {f k : Nat} {v : Value} : gro w (fset w f k v) := fun o c h => by rw [co_f]; exact h
theorem gro_a {w : AW} {a : Nat} {g : Nat → Int32} : gro w (aset w a g) := fun o c h => by rw [co_a]; exact h
theorem gro_j {w : AW} {a : Nat} {g : Nat → Int64} : gro w (jset w a g) := fun o c h => by rw [co_j]; exact h
theorem gro_p {w : AW} {x : AC} : gro w (w ++ [x]) := fun o c h => by
  unfold cok at h ⊢
  split at h
  · rename_i q hq
    rw [List.getElem?_append_left (List.getElem?_eq_some_iff.mp hq).1, hq]
    exact h
  · cases h
theorem ld_gw {L S : List Value} {i pc t : Nat} {w : AW} {c : Cfg} (h : ld L i S w pc t = some c) : c.2.2.2 = w := by
  unfold ld at h
  simp only [Bool.cond_eq_ite] at h
  repeat' (split at h)
  all_goals first | (simp at h; done) | (cases h; rfl)
theorem st_gw {L S : List Value} {i pc t : Nat} {w : AW} {c : Cfg} (h : st L i S w pc t = some c) : c.2.2.2 = w := by
  unfold st at h
  simp only [Bool.cond_eq_ite] at h
  repeat' (split at h)
  all_goals first | (simp at h; done) | (obtain ⟨y, -, rfl⟩ := Option.map_eq_some_iff.mp h; rfl)
theorem i2_gw {f : Int32 → Int32 → Int32} {L S : List Value} {pc : Nat} {w : AW} {c : Cfg} (h : i2 f pc L S w = some c) : c.2.2.2 = w := by
  unfold i2 at h
  split at h
  · cases h; rfl
  · cases h
theorem l2_gw {f : Int64 → Int64 → Int64} {L S : List Value} {pc : Nat} {w : AW} {c : Cfg} (h : l2 f pc L S w = some c) : c.2.2.2 = w := by
  unfold l2 at h
  split at h
  · cases h; rfl
  · cases h
theorem sw_gw {L S : List Value} {pc : Nat} {off : Int} {w : AW} {c : Cfg} (h : sw pc off L S w = some c) : c.2.2.2 = w := by
  unfold sw at h
  simp only [Bool.cond_eq_ite] at h
  split at h
  · cases h; rfl
  · cases h
theorem stepI_gro {X : Scr} {mi pc : Nat} {e : kO} {L S : List Value} {w : AW} {c : Cfg} (h : stepI X mi pc e L S w = some c) : gro w c.2.2.2 := by
  obtain ⟨i, r⟩ := e
  cases i
  all_goals first
    | (cases h; done)
    | exact gro_e (ld_gw h)
    | exact gro_e (st_gw h)
    | exact gro_e (i2_gw h)
    | exact gro_e (l2_gw h)
    | exact gro_e (sw_gw h)
    | (cases h; exact gro_rf)
    | (cases h; exact gro_p)
    | (simp only [stepI, Bool.cond_eq_ite] at h
       repeat' (split at h)
       all_goals first
         | (cases h; done)
         | (cases h; exact gro_rf)
         | (cases h; exact gro_f)
         | (cases h; exact gro_a)
         | (cases h; exact gro_j)
         | exact gro_e (sw_gw h)
         | (obtain ⟨y, -, rfl⟩ := Option.map_eq_some_iff.mp h; exact gro_p))
theorem callE_gro {e : kO} {S S1 : List Value} {w w1 : AW} {o : Option (Nat × List Value)} (h : callE e S w = some (o, S1, w1)) : gro w w1 := by
  obtain ⟨i, r⟩ := e
  cases i
  all_goals first
    | (cases h; done)
    | (simp only [callE, Bool.cond_eq_ite] at h
       repeat' (split at h)
       all_goals first
         | (cases h; done)
         | (cases h; exact gro_rf)
         | (cases h; exact gro_a))
theorem ev_gro (X : Scr) : ∀ (n mi pc : Nat) (L S : List Value) (w : AW) (q : Option Value × AW), ev X n mi pc L S w = some q → gro w q.2 := by
  intro n
  induction n with
  | zero => intro mi pc L S w q h; simp [ev] at h
  | succ n ih =>
    intro mi pc L S w q h
    rw [ev] at h
    cases hk : kI mi pc with
    | none => rw [hk] at h; simp at h
    | some e =>
      rw [hk] at h
      dsimp only at h
      cases hs : stepI X mi pc e L S w with
      | some c => rw [hs] at h; exact gro_tr (stepI_gro hs) (ih _ _ _ _ _ _ h)
      | none =>
        rw [hs] at h
        dsimp only at h
        cases hc : callE e S w with
        | some c =>
          obtain ⟨o, S1, w1⟩ := c
          have g1 := callE_gro hc
          rw [hc] at h
          cases o with
          | none => exact gro_tr g1 (ih _ _ _ _ _ _ h)
          | some ya =>
            obtain ⟨y, As⟩ := ya
            dsimp only at h
            cases hy : ev X n y 0 (entryL (kM y).2.2.1 As) [] w1 with
            | none => rw [hy] at h; simp at h
            | some r => rw [hy] at h; exact gro_tr g1 (gro_tr (ih _ _ _ _ _ _ hy) (ih _ _ _ _ _ _ h))
        | none =>
          rw [hc] at h
          dsimp only at h
          cases hr : retI mi e S with
          | none => rw [hr] at h; simp at h
          | some r =>
            rw [hr] at h
            cases h
            exact gro_rf
theorem Z_gro {X : Scr} {mi pc : Nat} {L S : List Value} {w w' : AW} {v : Option Value} (h : Z X mi pc L S w = some (v, w')) : gro w w' := by
  obtain ⟨n, hn⟩ := Z_iff.mp h
  exact ev_gro X n _ _ _ _ _ _ hn
theorem Z_rI {X : Scr} {mi : Nat} {L : List Value} {w w' : AW} {v : Value} (hr : (kM mi).2.2.2 = some .int) (h : Z X mi 0 L [] w = some (some v, w')) : ∃ x : Int32, v = .int x := by
  obtain ⟨n, hn⟩ := Z_iff.mp h
  have := ev_ret X n mi 0 L [] w w' v hn
  rw [hr] at this
  cases v with
  | int x => exact ⟨x, rfl⟩
  | _ => simp [okR] at this
theorem Z_rL {X : Scr} {mi : Nat} {L : List Value} {w w' : AW} {v : Value} (hr : (kM mi).2.2.2 = some .long) (h : Z X mi 0 L [] w = some (some v, w')) : ∃ x : Int64, v = .long x := by
  obtain ⟨n, hn⟩ := Z_iff.mp h
  have := ev_ret X n mi 0 L [] w w' v hn
  rw [hr] at this
  cases v with
  | long x => exact ⟨x, rfl⟩
  | _ => simp [okR] at this
theorem lg_rf {x : Int64} : lg_cmp x x = 0 := lg_eq.mpr rfl
theorem nI_k {i k : Nat} : nI i + nI k = nI (i + k) := nI_add i k
theorem inB_s {j L : Nat} (h : j < L) (hL : L ≤ 3072) : inB (nI j) L = true := inB_nI h (by omega)
theorem c_s {j : Nat} (h : j < 3072) : (nI j).toNatClampNeg = j := nI_clamp (by omega)
/-- from the loop's head to the loop's head -/
def LPs (X : Scr) (i : Nat) (w : AW) : Prop := ∃ w', Z X 168 33 [.retAddr 0, .ref 0, .ref 64, .int (nI i)] [.int (X.2 i &&& 31)] w = Z X 168 18 [.retAddr 0, .ref 0, .ref 64, .int (nI (i + 6))] [] w' ∧ SI w'

theorem lw0 {X : Scr} {w : AW} {i : Nat} (h : SI w) (hL : X.1 ≤ 3072) (hi : i + 6 ≤ X.1) (hc : X.2 i &&& 31 = 0) : LPs X i w := by
  have q1 : nI i + 1 = nI (i + 1) := nI_1 i
  have q2 : nI i + 2 = nI (i + 2) := nI_k (k := 2)
  have q3 : nI i + 3 = nI (i + 3) := nI_k (k := 3)
  have q4 : nI i + 4 = nI (i + 4) := nI_k (k := 4)
  have q5 : nI i + 5 = nI (i + 5) := nI_k (k := 5)
  have q6 : nI i + 6 = nI (i + 6) := nI_k (k := 6)
  have z10 : ¬ (1 : Int32) = 0 := by decide
  unfold LPs
  rw [hc]
  obtain ⟨v, w1, w2, t1, t2, si⟩ := op_kin (X := X) (a := X.2 (i + 1)) (b := X.2 (i + 2)) (c := X.2 (i + 3)) (d := X.2 (i + 4)) h
  obtain ⟨x, rfl⟩ := Z_rI (by rfl) t1
  have o1 := Z_gro t1 64 9 (oc64 h.1)
  refine ⟨w2, ?_, si⟩
  simp only [z168_33c0, z168_156, z168_157, z168_158, z168_159, z168_160, z168_161, z168_161s, z168_162, z168_163, z168_164, z168_165, z168_166, z168_166s, z168_167, z168_168, z168_169, z168_170, z168_171, z168_171s, z168_172, z168_173, z168_174, z168_175, z168_176, z168_176s, z168_177, z168_180, z168_181, z168_182, z168_183, z168_184, z168_185, z168_185s, z168_186, z168_187, z168_188, z168_189, z168_190, z168_190s, z168_191, z168_192, z168_193, z168_194, z168_195, z168_195s, z168_196, z168_197, z168_198, z168_199, z168_200, z168_200s, z168_201, z168_204, z168_207, z168_208, z168_1020, z168_1023, Option.bind_some, Option.toList_some, Option.toList_none, List.cons_append, List.nil_append, sc_i, sc_r, sc_l, sc_u, sc_s, List.length_nil, List.length_cons, Nat.reduceAdd, Nat.reduceLeDiff, Nat.zero_le, le4_0, le4_1, le4_2, le4_3, rz0, rz1, rzt, eq_self, tI_0, tI_n0, if_true, if_false, ne_eq, not_true_eq_false, not_false_eq_true, and_self, Bool.false_eq_true, oc0 h.1, of0_0 h.1, og0_0 h.1, of0_1 h.1, og0_1 h.1, of0_2 h.1, og0_2 h.1, of0_3 h.1, og0_3 h.1, of0_4 h.1, og0_4 h.1, of0_5 h.1, og0_5 h.1, of0_6 h.1, og0_6 h.1, of0_7 h.1, og0_7 h.1, of0_8 h.1, og0_8 h.1, of0_9 h.1, og0_9 h.1, of0_10 h.1, og0_10 h.1, q1, inB_s (show i + 1 < X.1 by omega) hL, c_s (show i + 1 < 3072 by omega), q2, inB_s (show i + 2 < X.1 by omega) hL, c_s (show i + 2 < 3072 by omega), q3, inB_s (show i + 3 < X.1 by omega) hL, c_s (show i + 3 < 3072 by omega), q4, inB_s (show i + 4 < X.1 by omega) hL, c_s (show i + 4 < 3072 by omega), t1, o1, t2, q6]
theorem lw1 {X : Scr} {w : AW} {i : Nat} (h : SI w) (hL : X.1 ≤ 3072) (hi : i + 6 ≤ X.1) (hc : X.2 i &&& 31 = 1) : LPs X i w := by
  have q1 : nI i + 1 = nI (i + 1) := nI_1 i
  have q2 : nI i + 2 = nI (i + 2) := nI_k (k := 2)
  have q3 : nI i + 3 = nI (i + 3) := nI_k (k := 3)
  have q4 : nI i + 4 = nI (i + 4) := nI_k (k := 4)
  have q5 : nI i + 5 = nI (i + 5) := nI_k (k := 5)
  have q6 : nI i + 6 = nI (i + 6) := nI_k (k := 6)
  have z10 : ¬ (1 : Int32) = 0 := by decide
  unfold LPs
  rw [hc]
  by_cases hz : X.2 (i + 3) = 0
  · obtain ⟨v, w1, w2, t1, t2, si⟩ := op_tie (X := X) (a := X.2 (i + 1)) (b := X.2 (i + 2)) (c := 0) h
    obtain ⟨x, rfl⟩ := Z_rI (by rfl) t1
    have o1 := Z_gro t1 64 9 (oc64 h.1)
    refine ⟨w2, ?_, si⟩
    simp only [z168_33c1, z168_209, z168_210, z168_211, z168_212, z168_213, z168_214, z168_214s, z168_215, z168_216, z168_217, z168_218, z168_219, z168_219s, z168_220, z168_221, z168_222, z168_223, z168_224, z168_224s, z168_225, z168_228, z168_229, z168_232, z168_233, z168_236, z168_237, z168_238, z168_239, z168_240, z168_241, z168_241s, z168_242, z168_243, z168_244, z168_245, z168_246, z168_246s, z168_247, z168_248, z168_249, z168_250, z168_251, z168_251s, z168_252, z168_255, z168_256, z168_259, z168_260, z168_263, z168_266, z168_267, z168_1020, z168_1023, Option.bind_some, Option.toList_some, Option.toList_none, List.cons_append, List.nil_append, sc_i, sc_r, sc_l, sc_u, sc_s, List.length_nil, List.length_cons, Nat.reduceAdd, Nat.reduceLeDiff, Nat.zero_le, le4_0, le4_1, le4_2, le4_3, rz0, rz1, rzt, eq_self, tI_0, tI_n0, if_true, if_false, ne_eq, not_true_eq_false, not_false_eq_true, and_self, Bool.false_eq_true, oc0 h.1, of0_0 h.1, og0_0 h.1, of0_1 h.1, og0_1 h.1, of0_2 h.1, og0_2 h.1, of0_3 h.1, og0_3 h.1, of0_4 h.1, og0_4 h.1, of0_5 h.1, og0_5 h.1, of0_6 h.1, og0_6 h.1, of0_7 h.1, og0_7 h.1, of0_8 h.1, og0_8 h.1, of0_9 h.1, og0_9 h.1, of0_10 h.1, og0_10 h.1, q1, inB_s (show i + 1 < X.1 by omega) hL, c_s (show i + 1 < 3072 by omega), q2, inB_s (show i + 2 < X.1 by omega) hL, c_s (show i + 2 < 3072 by omega), q3, inB_s (show i + 3 < X.1 by omega) hL, c_s (show i + 3 < 3072 by omega), t1, o1, t2, hz, z10, q6]
  · obtain ⟨v, w1, w2, t1, t2, si⟩ := op_tie (X := X) (a := X.2 (i + 1)) (b := X.2 (i + 2)) (c := 1) h
    obtain ⟨x, rfl⟩ := Z_rI (by rfl) t1
    have o1 := Z_gro t1 64 9 (oc64 h.1)
    refine ⟨w2, ?_, si⟩
    simp only [z168_33c1, z168_209, z168_210, z168_211, z168_212, z168_213, z168_214, z168_214s, z168_215, z168_216, z168_217, z168_218, z168_219, z168_219s, z168_220, z168_221, z168_222, z168_223, z168_224, z168_224s, z168_225, z168_228, z168_229, z168_232, z168_233, z168_236, z168_237, z168_238, z168_239, z168_240, z168_241, z168_241s, z168_242, z168_243, z168_244, z168_245, z168_246, z168_246s, z168_247, z168_248, z168_249, z168_250, z168_251, z168_251s, z168_252, z168_255, z168_256, z168_259, z168_260, z168_263, z168_266, z168_267, z168_1020, z168_1023, Option.bind_some, Option.toList_some, Option.toList_none, List.cons_append, List.nil_append, sc_i, sc_r, sc_l, sc_u, sc_s, List.length_nil, List.length_cons, Nat.reduceAdd, Nat.reduceLeDiff, Nat.zero_le, le4_0, le4_1, le4_2, le4_3, rz0, rz1, rzt, eq_self, tI_0, tI_n0, if_true, if_false, ne_eq, not_true_eq_false, not_false_eq_true, and_self, Bool.false_eq_true, oc0 h.1, of0_0 h.1, og0_0 h.1, of0_1 h.1, og0_1 h.1, of0_2 h.1, og0_2 h.1, of0_3 h.1, og0_3 h.1, of0_4 h.1, og0_4 h.1, of0_5 h.1, og0_5 h.1, of0_6 h.1, og0_6 h.1, of0_7 h.1, og0_7 h.1, of0_8 h.1, og0_8 h.1, of0_9 h.1, og0_9 h.1, of0_10 h.1, og0_10 h.1, q1, inB_s (show i + 1 < X.1 by omega) hL, c_s (show i + 1 < 3072 by omega), q2, inB_s (show i + 2 < X.1 by omega) hL, c_s (show i + 2 < 3072 by omega), q3, inB_s (show i + 3 < X.1 by omega) hL, c_s (show i + 3 < 3072 by omega), t1, o1, t2, hz, z10, q6]
theorem lw2 {X : Scr} {w : AW} {i : Nat} (h : SI w) (hL : X.1 ≤ 3072) (hi : i + 6 ≤ X.1) (hc : X.2 i &&& 31 = 2) : LPs X i w := by
  have q1 : nI i + 1 = nI (i + 1) := nI_1 i
  have q2 : nI i + 2 = nI (i + 2) := nI_k (k := 2)
  have q3 : nI i + 3 = nI (i + 3) := nI_k (k := 3)
  have q4 : nI i + 4 = nI (i + 4) := nI_k (k := 4)
  have q5 : nI i + 5 = nI (i + 5) := nI_k (k := 5)
  have q6 : nI i + 6 = nI (i + 6) := nI_k (k := 6)
  have z10 : ¬ (1 : Int32) = 0 := by decide
  unfold LPs
  rw [hc]
  obtain ⟨v, w1, w2, t1, t2, si⟩ := op_pause (X := X) (a := X.2 (i + 1)) h
  obtain ⟨x, rfl⟩ := Z_rI (by rfl) t1
  have o1 := Z_gro t1 64 9 (oc64 h.1)
  refine ⟨w2, ?_, si⟩
  simp only [z168_33c2, z168_268, z168_269, z168_270, z168_271, z168_272, z168_273, z168_273s, z168_274, z168_277, z168_278, z168_279, z168_280, z168_281, z168_282, z168_282s, z168_283, z168_286, z168_289, z168_290, z168_1020, z168_1023, Option.bind_some, Option.toList_some, Option.toList_none, List.cons_append, List.nil_append, sc_i, sc_r, sc_l, sc_u, sc_s, List.length_nil, List.length_cons, Nat.reduceAdd, Nat.reduceLeDiff, Nat.zero_le, le4_0, le4_1, le4_2, le4_3, rz0, rz1, rzt, eq_self, tI_0, tI_n0, if_true, if_false, ne_eq, not_true_eq_false, not_false_eq_true, and_self, Bool.false_eq_true, oc0 h.1, of0_0 h.1, og0_0 h.1, of0_1 h.1, og0_1 h.1, of0_2 h.1, og0_2 h.1, of0_3 h.1, og0_3 h.1, of0_4 h.1, og0_4 h.1, of0_5 h.1, og0_5 h.1, of0_6 h.1, og0_6 h.1, of0_7 h.1, og0_7 h.1, of0_8 h.1, og0_8 h.1, of0_9 h.1, og0_9 h.1, of0_10 h.1, og0_10 h.1, q1, inB_s (show i + 1 < X.1 by omega) hL, c_s (show i + 1 < 3072 by omega), t1, o1, t2, q6]
theorem lw3 {X : Scr} {w : AW} {i : Nat} (h : SI w) (hL : X.1 ≤ 3072) (hi : i + 6 ≤ X.1) (hc : X.2 i &&& 31 = 3) : LPs X i w := by
  have q1 : nI i + 1 = nI (i + 1) := nI_1 i
  have q2 : nI i + 2 = nI (i + 2) := nI_k (k := 2)
  have q3 : nI i + 3 = nI (i + 3) := nI_k (k := 3)
  have q4 : nI i + 4 = nI (i + 4) := nI_k (k := 4)
  have q5 : nI i + 5 = nI (i + 5) := nI_k (k := 5)
  have q6 : nI i + 6 = nI (i + 6) := nI_k (k := 6)
  have z10 : ¬ (1 : Int32) = 0 := by decide
  unfold LPs
  rw [hc]
  obtain ⟨v, w1, w2, t1, t2, si⟩ := op_task (X := X) (a := X.2 (i + 1)) (b := X.2 (i + 2)) (c := X.2 (i + 3)) (d := X.2 (i + 4)) h
  obtain ⟨x, rfl⟩ := Z_rI (by rfl) t1
  have o1 := Z_gro t1 64 9 (oc64 h.1)
  refine ⟨w2, ?_, si⟩
  simp only [z168_33c3, z168_291, z168_292, z168_293, z168_294, z168_295, z168_296, z168_296s, z168_297, z168_298, z168_299, z168_300, z168_301, z168_301s, z168_302, z168_303, z168_304, z168_305, z168_306, z168_306s, z168_307, z168_308, z168_309, z168_310, z168_311, z168_311s, z168_312, z168_315, z168_316, z168_317, z168_318, z168_319, z168_320, z168_320s, z168_321, z168_322, z168_323, z168_324, z168_325, z168_325s, z168_326, z168_327, z168_328, z168_329, z168_330, z168_330s, z168_331, z168_332, z168_333, z168_334, z168_335, z168_335s, z168_336, z168_339, z168_342, z168_343, z168_1020, z168_1023, Option.bind_some, Option.toList_some, Option.toList_none, List.cons_append, List.nil_append, sc_i, sc_r, sc_l, sc_u, sc_s, List.length_nil, List.length_cons, Nat.reduceAdd, Nat.reduceLeDiff, Nat.zero_le, le4_0, le4_1, le4_2, le4_3, rz0, rz1, rzt, eq_self, tI_0, tI_n0, if_true, if_false, ne_eq, not_true_eq_false, not_false_eq_true, and_self, Bool.false_eq_true, oc0 h.1, of0_0 h.1, og0_0 h.1, of0_1 h.1, og0_1 h.1, of0_2 h.1, og0_2 h.1, of0_3 h.1, og0_3 h.1, of0_4 h.1, og0_4 h.1, of0_5 h.1, og0_5 h.1, of0_6 h.1, og0_6 h.1, of0_7 h.1, og0_7 h.1, of0_8 h.1, og0_8 h.1, of0_9 h.1, og0_9 h.1, of0_10 h.1, og0_10 h.1, q1, inB_s (show i + 1 < X.1 by omega) hL, c_s (show i + 1 < 3072 by omega), q2, inB_s (show i + 2 < X.1 by omega) hL, c_s (show i + 2 < 3072 by omega), q3, inB_s (show i + 3 < X.1 by omega) hL, c_s (show i + 3 < 3072 by omega), q4, inB_s (show i + 4 < X.1 by omega) hL, c_s (show i + 4 < 3072 by omega), t1, o1, t2, q6]
theorem lw4 {X : Scr} {w : AW} {i : Nat} (h : SI w) (hL : X.1 ≤ 3072) (hi : i + 6 ≤ X.1) (hc : X.2 i &&& 31 = 4) : LPs X i w := by
  have q1 : nI i + 1 = nI (i + 1) := nI_1 i
  have q2 : nI i + 2 = nI (i + 2) := nI_k (k := 2)
  have q3 : nI i + 3 = nI (i + 3) := nI_k (k := 3)
  have q4 : nI i + 4 = nI (i + 4) := nI_k (k := 4)
  have q5 : nI i + 5 = nI (i + 5) := nI_k (k := 5)
  have q6 : nI i + 6 = nI (i + 6) := nI_k (k := 6)
  have z10 : ¬ (1 : Int32) = 0 := by decide
  unfold LPs
  rw [hc]
  obtain ⟨v, w1, w2, t1, t2, si⟩ := op_say (X := X) (a := X.2 (i + 1)) h
  obtain ⟨x, rfl⟩ := Z_rI (by rfl) t1
  have o1 := Z_gro t1 64 9 (oc64 h.1)
  refine ⟨w2, ?_, si⟩
  simp only [z168_33c4, z168_344, z168_345, z168_346, z168_347, z168_348, z168_349, z168_349s, z168_350, z168_353, z168_354, z168_355, z168_356, z168_357, z168_358, z168_358s, z168_359, z168_362, z168_365, z168_366, z168_1020, z168_1023, Option.bind_some, Option.toList_some, Option.toList_none, List.cons_append, List.nil_append, sc_i, sc_r, sc_l, sc_u, sc_s, List.length_nil, List.length_cons, Nat.reduceAdd, Nat.reduceLeDiff, Nat.zero_le, le4_0, le4_1, le4_2, le4_3, rz0, rz1, rzt, eq_self, tI_0, tI_n0, if_true, if_false, ne_eq, not_true_eq_false, not_false_eq_true, and_self, Bool.false_eq_true, oc0 h.1, of0_0 h.1, og0_0 h.1, of0_1 h.1, og0_1 h.1, of0_2 h.1, og0_2 h.1, of0_3 h.1, og0_3 h.1, of0_4 h.1, og0_4 h.1, of0_5 h.1, og0_5 h.1, of0_6 h.1, og0_6 h.1, of0_7 h.1, og0_7 h.1, of0_8 h.1, og0_8 h.1, of0_9 h.1, og0_9 h.1, of0_10 h.1, og0_10 h.1, q1, inB_s (show i + 1 < X.1 by omega) hL, c_s (show i + 1 < 3072 by omega), t1, o1, t2, q6]
theorem lw5 {X : Scr} {w : AW} {i : Nat} (h : SI w) (hL : X.1 ≤ 3072) (hi : i + 6 ≤ X.1) (hc : X.2 i &&& 31 = 5) : LPs X i w := by
  have q1 : nI i + 1 = nI (i + 1) := nI_1 i
  have q2 : nI i + 2 = nI (i + 2) := nI_k (k := 2)
  have q3 : nI i + 3 = nI (i + 3) := nI_k (k := 3)
  have q4 : nI i + 4 = nI (i + 4) := nI_k (k := 4)
  have q5 : nI i + 5 = nI (i + 5) := nI_k (k := 5)
  have q6 : nI i + 6 = nI (i + 6) := nI_k (k := 6)
  have z10 : ¬ (1 : Int32) = 0 := by decide
  unfold LPs
  rw [hc]
  obtain ⟨v, w1, w2, t1, t2, si⟩ := op_wipe (X := X)  h
  obtain ⟨x, rfl⟩ := Z_rI (by rfl) t1
  have o1 := Z_gro t1 64 9 (oc64 h.1)
  refine ⟨w2, ?_, si⟩
  simp only [z168_33c5, z168_367, z168_368, z168_371, z168_372, z168_375, z168_378, z168_379, z168_1020, z168_1023, Option.bind_some, Option.toList_some, Option.toList_none, List.cons_append, List.nil_append, sc_i, sc_r, sc_l, sc_u, sc_s, List.length_nil, List.length_cons, Nat.reduceAdd, Nat.reduceLeDiff, Nat.zero_le, le4_0, le4_1, le4_2, le4_3, rz0, rz1, rzt, eq_self, tI_0, tI_n0, if_true, if_false, ne_eq, not_true_eq_false, not_false_eq_true, and_self, Bool.false_eq_true, oc0 h.1, of0_0 h.1, og0_0 h.1, of0_1 h.1, og0_1 h.1, of0_2 h.1, og0_2 h.1, of0_3 h.1, og0_3 h.1, of0_4 h.1, og0_4 h.1, of0_5 h.1, og0_5 h.1, of0_6 h.1, og0_6 h.1, of0_7 h.1, og0_7 h.1, of0_8 h.1, og0_8 h.1, of0_9 h.1, og0_9 h.1, of0_10 h.1, og0_10 h.1, t1, o1, t2, q6]
theorem lw6 {X : Scr} {w : AW} {i : Nat} (h : SI w) (hL : X.1 ≤ 3072) (hi : i + 6 ≤ X.1) (hc : X.2 i &&& 31 = 6) : LPs X i w := by
  have q1 : nI i + 1 = nI (i + 1) := nI_1 i
  have q2 : nI i + 2 = nI (i + 2) := nI_k (k := 2)
  have q3 : nI i + 3 = nI (i + 3) := nI_k (k := 3)
  have q4 : nI i + 4 = nI (i + 4) := nI_k (k := 4)
  have q5 : nI i + 5 = nI (i + 5) := nI_k (k := 5)
  have q6 : nI i + 6 = nI (i + 6) := nI_k (k := 6)
  have z10 : ¬ (1 : Int32) = 0 := by decide
  unfold LPs
  rw [hc]
  obtain ⟨v, w1, w2, t1, t2, si⟩ := op_fault (X := X)  h
  obtain ⟨x, rfl⟩ := Z_rI (by rfl) t1
  have o1 := Z_gro t1 64 9 (oc64 h.1)
  refine ⟨w2, ?_, si⟩
  simp only [z168_33c6, z168_380, z168_381, z168_384, z168_385, z168_388, z168_391, z168_392, z168_1020, z168_1023, Option.bind_some, Option.toList_some, Option.toList_none, List.cons_append, List.nil_append, sc_i, sc_r, sc_l, sc_u, sc_s, List.length_nil, List.length_cons, Nat.reduceAdd, Nat.reduceLeDiff, Nat.zero_le, le4_0, le4_1, le4_2, le4_3, rz0, rz1, rzt, eq_self, tI_0, tI_n0, if_true, if_false, ne_eq, not_true_eq_false, not_false_eq_true, and_self, Bool.false_eq_true, oc0 h.1, of0_0 h.1, og0_0 h.1, of0_1 h.1, og0_1 h.1, of0_2 h.1, og0_2 h.1, of0_3 h.1, og0_3 h.1, of0_4 h.1, og0_4 h.1, of0_5 h.1, og0_5 h.1, of0_6 h.1, og0_6 h.1, of0_7 h.1, og0_7 h.1, of0_8 h.1, og0_8 h.1, of0_9 h.1, og0_9 h.1, of0_10 h.1, og0_10 h.1, t1, o1, t2, q6]
theorem lw7 {X : Scr} {w : AW} {i : Nat} (h : SI w) (hL : X.1 ≤ 3072) (hi : i + 6 ≤ X.1) (hc : X.2 i &&& 31 = 7) : LPs X i w := by
  have q1 : nI i + 1 = nI (i + 1) := nI_1 i
  have q2 : nI i + 2 = nI (i + 2) := nI_k (k := 2)
  have q3 : nI i + 3 = nI (i + 3) := nI_k (k := 3)
  have q4 : nI i + 4 = nI (i + 4) := nI_k (k := 4)
  have q5 : nI i + 5 = nI (i + 5) := nI_k (k := 5)
  have q6 : nI i + 6 = nI (i + 6) := nI_k (k := 6)
  have z10 : ¬ (1 : Int32) = 0 := by decide
  unfold LPs
  rw [hc]
  obtain ⟨v, w1, w2, t1, t2, si⟩ := op_judge (X := X) (a := X.2 (i + 1)) h
  obtain ⟨x, rfl⟩ := Z_rI (by rfl) t1
  have o1 := Z_gro t1 64 9 (oc64 h.1)
  refine ⟨w2, ?_, si⟩
  simp only [z168_33c7, z168_393, z168_394, z168_395, z168_396, z168_397, z168_398, z168_398s, z168_399, z168_402, z168_403, z168_404, z168_405, z168_406, z168_407, z168_407s, z168_408, z168_411, z168_414, z168_415, z168_1020, z168_1023, Option.bind_some, Option.toList_some, Option.toList_none, List.cons_append, List.nil_append, sc_i, sc_r, sc_l, sc_u, sc_s, List.length_nil, List.length_cons, Nat.reduceAdd, Nat.reduceLeDiff, Nat.zero_le, le4_0, le4_1, le4_2, le4_3, rz0, rz1, rzt, eq_self, tI_0, tI_n0, if_true, if_false, ne_eq, not_true_eq_false, not_false_eq_true, and_self, Bool.false_eq_true, oc0 h.1, of0_0 h.1, og0_0 h.1, of0_1 h.1, og0_1 h.1, of0_2 h.1, og0_2 h.1, of0_3 h.1, og0_3 h.1, of0_4 h.1, og0_4 h.1, of0_5 h.1, og0_5 h.1, of0_6 h.1, og0_6 h.1, of0_7 h.1, og0_7 h.1, of0_8 h.1, og0_8 h.1, of0_9 h.1, og0_9 h.1, of0_10 h.1, og0_10 h.1, q1, inB_s (show i + 1 < X.1 by omega) hL, c_s (show i + 1 < 3072 by omega), t1, o1, t2, q6]
theorem lw8 {X : Scr} {w : AW} {i : Nat} (h : SI w) (hL : X.1 ≤ 3072) (hi : i + 6 ≤ X.1) (hc : X.2 i &&& 31 = 8) : LPs X i w := by
  have q1 : nI i + 1 = nI (i + 1) := nI_1 i
  have q2 : nI i + 2 = nI (i + 2) := nI_k (k := 2)
  have q3 : nI i + 3 = nI (i + 3) := nI_k (k := 3)
  have q4 : nI i + 4 = nI (i + 4) := nI_k (k := 4)
  have q5 : nI i + 5 = nI (i + 5) := nI_k (k := 5)
  have q6 : nI i + 6 = nI (i + 6) := nI_k (k := 6)
  have z10 : ¬ (1 : Int32) = 0 := by decide
  unfold LPs
  rw [hc]
  obtain ⟨v, w1, w2, t1, t2, si⟩ := op_behind (X := X) (k := X.2 (i + 1)) (a := X.2 (i + 2)) h
  obtain ⟨x, rfl⟩ := Z_rI (by rfl) t1
  have o1 := Z_gro t1 64 9 (oc64 h.1)
  refine ⟨w2, ?_, si⟩
  simp only [z168_33c8, z168_416, z168_417, z168_418, z168_419, z168_420, z168_421, z168_421s, z168_422, z168_423, z168_424, z168_425, z168_426, z168_426s, z168_427, z168_430, z168_431, z168_432, z168_433, z168_434, z168_435, z168_435s, z168_436, z168_437, z168_438, z168_439, z168_440, z168_440s, z168_441, z168_444, z168_447, z168_448, z168_1020, z168_1023, Option.bind_some, Option.toList_some, Option.toList_none, List.cons_append, List.nil_append, sc_i, sc_r, sc_l, sc_u, sc_s, List.length_nil, List.length_cons, Nat.reduceAdd, Nat.reduceLeDiff, Nat.zero_le, le4_0, le4_1, le4_2, le4_3, rz0, rz1, rzt, eq_self, tI_0, tI_n0, if_true, if_false, ne_eq, not_true_eq_false, not_false_eq_true, and_self, Bool.false_eq_true, oc0 h.1, of0_0 h.1, og0_0 h.1, of0_1 h.1, og0_1 h.1, of0_2 h.1, og0_2 h.1, of0_3 h.1, og0_3 h.1, of0_4 h.1, og0_4 h.1, of0_5 h.1, og0_5 h.1, of0_6 h.1, og0_6 h.1, of0_7 h.1, og0_7 h.1, of0_8 h.1, og0_8 h.1, of0_9 h.1, og0_9 h.1, of0_10 h.1, og0_10 h.1, q1, inB_s (show i + 1 < X.1 by omega) hL, c_s (show i + 1 < 3072 by omega), q2, inB_s (show i + 2 < X.1 by omega) hL, c_s (show i + 2 < 3072 by omega), t1, o1, t2, q6]
theorem lw9 {X : Scr} {w : AW} {i : Nat} (h : SI w) (hL : X.1 ≤ 3072) (hi : i + 6 ≤ X.1) (hc : X.2 i &&& 31 = 9) : LPs X i w := by
  have q1 : nI i + 1 = nI (i + 1) := nI_1 i
  have q2 : nI i + 2 = nI (i + 2) := nI_k (k := 2)
  have q3 : nI i + 3 = nI (i + 3) := nI_k (k := 3)
  have q4 : nI i + 4 = nI (i + 4) := nI_k (k := 4)
  have q5 : nI i + 5 = nI (i + 5) := nI_k (k := 5)
  have q6 : nI i + 6 = nI (i + 6) := nI_k (k := 6)
  have z10 : ¬ (1 : Int32) = 0 := by decide
  unfold LPs
  rw [hc]
  obtain ⟨v, w1, w2, t1, t2, si⟩ := op_trust (X := X) (a := X.2 (i + 1)) h
  obtain ⟨x, rfl⟩ := Z_rI (by rfl) t1
  have o1 := Z_gro t1 64 9 (oc64 h.1)
  refine ⟨w2, ?_, si⟩
  simp only [z168_33c9, z168_449, z168_450, z168_451, z168_452, z168_453, z168_454, z168_454s, z168_455, z168_458, z168_459, z168_460, z168_461, z168_462, z168_463, z168_463s, z168_464, z168_467, z168_470, z168_471, z168_1020, z168_1023, Option.bind_some, Option.toList_some, Option.toList_none, List.cons_append, List.nil_append, sc_i, sc_r, sc_l, sc_u, sc_s, List.length_nil, List.length_cons, Nat.reduceAdd, Nat.reduceLeDiff, Nat.zero_le, le4_0, le4_1, le4_2, le4_3, rz0, rz1, rzt, eq_self, tI_0, tI_n0, if_true, if_false, ne_eq, not_true_eq_false, not_false_eq_true, and_self, Bool.false_eq_true, oc0 h.1, of0_0 h.1, og0_0 h.1, of0_1 h.1, og0_1 h.1, of0_2 h.1, og0_2 h.1, of0_3 h.1, og0_3 h.1, of0_4 h.1, og0_4 h.1, of0_5 h.1, og0_5 h.1, of0_6 h.1, og0_6 h.1, of0_7 h.1, og0_7 h.1, of0_8 h.1, og0_8 h.1, of0_9 h.1, og0_9 h.1, of0_10 h.1, og0_10 h.1, q1, inB_s (show i + 1 < X.1 by omega) hL, c_s (show i + 1 < 3072 by omega), t1, o1, t2, q6]
theorem lw10 {X : Scr} {w : AW} {i : Nat} (h : SI w) (hL : X.1 ≤ 3072) (hi : i + 6 ≤ X.1) (hc : X.2 i &&& 31 = 10) : LPs X i w := by
  have q1 : nI i + 1 = nI (i + 1) := nI_1 i
  have q2 : nI i + 2 = nI (i + 2) := nI_k (k := 2)
  have q3 : nI i + 3 = nI (i + 3) := nI_k (k := 3)
  have q4 : nI i + 4 = nI (i + 4) := nI_k (k := 4)
  have q5 : nI i + 5 = nI (i + 5) := nI_k (k := 5)
  have q6 : nI i + 6 = nI (i + 6) := nI_k (k := 6)
  have z10 : ¬ (1 : Int32) = 0 := by decide
  unfold LPs
  rw [hc]
  obtain ⟨v, w1, w2, t1, t2, si⟩ := op_first (X := X) (a := X.2 (i + 1)) h
  obtain ⟨x, rfl⟩ := Z_rI (by rfl) t1
  have o1 := Z_gro t1 64 9 (oc64 h.1)
  refine ⟨w2, ?_, si⟩
  simp only [z168_33c10, z168_472, z168_473, z168_474, z168_475, z168_476, z168_477, z168_477s, z168_478, z168_481, z168_482, z168_483, z168_484, z168_485, z168_486, z168_486s, z168_487, z168_490, z168_493, z168_494, z168_1020, z168_1023, Option.bind_some, Option.toList_some, Option.toList_none, List.cons_append, List.nil_append, sc_i, sc_r, sc_l, sc_u, sc_s, List.length_nil, List.length_cons, Nat.reduceAdd, Nat.reduceLeDiff, Nat.zero_le, le4_0, le4_1, le4_2, le4_3, rz0, rz1, rzt, eq_self, tI_0, tI_n0, if_true, if_false, ne_eq, not_true_eq_false, not_false_eq_true, and_self, Bool.false_eq_true, oc0 h.1, of0_0 h.1, og0_0 h.1, of0_1 h.1, og0_1 h.1, of0_2 h.1, og0_2 h.1, of0_3 h.1, og0_3 h.1, of0_4 h.1, og0_4 h.1, of0_5 h.1, og0_5 h.1, of0_6 h.1, og0_6 h.1, of0_7 h.1, og0_7 h.1, of0_8 h.1, og0_8 h.1, of0_9 h.1, og0_9 h.1, of0_10 h.1, og0_10 h.1, q1, inB_s (show i + 1 < X.1 by omega) hL, c_s (show i + 1 < 3072 by omega), t1, o1, t2, q6]
theorem lw11 {X : Scr} {w : AW} {i : Nat} (h : SI w) (hL : X.1 ≤ 3072) (hi : i + 6 ≤ X.1) (hc : X.2 i &&& 31 = 11) : LPs X i w := by
  have q1 : nI i + 1 = nI (i + 1) := nI_1 i
  have q2 : nI i + 2 = nI (i + 2) := nI_k (k := 2)
  have q3 : nI i + 3 = nI (i + 3) := nI_k (k := 3)
  have q4 : nI i + 4 = nI (i + 4) := nI_k (k := 4)
  have q5 : nI i + 5 = nI (i + 5) := nI_k (k := 5)
  have q6 : nI i + 6 = nI (i + 6) := nI_k (k := 6)
  have z10 : ¬ (1 : Int32) = 0 := by decide
  unfold LPs
  rw [hc]
  obtain ⟨v, w1, w2, t1, t2, si⟩ := op_done (X := X)  h
  obtain ⟨x, rfl⟩ := Z_rI (by rfl) t1
  have o1 := Z_gro t1 64 9 (oc64 h.1)
  refine ⟨w2, ?_, si⟩
  simp only [z168_33c11, z168_495, z168_496, z168_499, z168_500, z168_503, z168_506, z168_507, z168_1020, z168_1023, Option.bind_some, Option.toList_some, Option.toList_none, List.cons_append, List.nil_append, sc_i, sc_r, sc_l, sc_u, sc_s, List.length_nil, List.length_cons, Nat.reduceAdd, Nat.reduceLeDiff, Nat.zero_le, le4_0, le4_1, le4_2, le4_3, rz0, rz1, rzt, eq_self, tI_0, tI_n0, if_true, if_false, ne_eq, not_true_eq_false, not_false_eq_true, and_self, Bool.false_eq_true, oc0 h.1, of0_0 h.1, og0_0 h.1, of0_1 h.1, og0_1 h.1, of0_2 h.1, og0_2 h.1, of0_3 h.1, og0_3 h.1, of0_4 h.1, og0_4 h.1, of0_5 h.1, og0_5 h.1, of0_6 h.1, og0_6 h.1, of0_7 h.1, og0_7 h.1, of0_8 h.1, og0_8 h.1, of0_9 h.1, og0_9 h.1, of0_10 h.1, og0_10 h.1, t1, o1, t2, q6]
theorem lw12 {X : Scr} {w : AW} {i : Nat} (h : SI w) (hL : X.1 ≤ 3072) (hi : i + 6 ≤ X.1) (hc : X.2 i &&& 31 = 12) : LPs X i w := by
  have q1 : nI i + 1 = nI (i + 1) := nI_1 i
  have q2 : nI i + 2 = nI (i + 2) := nI_k (k := 2)
  have q3 : nI i + 3 = nI (i + 3) := nI_k (k := 3)
  have q4 : nI i + 4 = nI (i + 4) := nI_k (k := 4)
  have q5 : nI i + 5 = nI (i + 5) := nI_k (k := 5)
  have q6 : nI i + 6 = nI (i + 6) := nI_k (k := 6)
  have z10 : ¬ (1 : Int32) = 0 := by decide
  unfold LPs
  rw [hc]
  obtain ⟨v, w1, w2, t1, t2, si⟩ := op_holds (X := X) (a := X.2 (i + 1)) (b := X.2 (i + 2)) h
  obtain ⟨x, rfl⟩ := Z_rI (by rfl) t1
  have o1 := Z_gro t1 64 9 (oc64 h.1)
  refine ⟨w2, ?_, si⟩
  simp only [z168_33c12, z168_508, z168_509, z168_510, z168_511, z168_512, z168_513, z168_513s, z168_514, z168_515, z168_516, z168_517, z168_518, z168_518s, z168_519, z168_522, z168_523, z168_524, z168_525, z168_526, z168_527, z168_527s, z168_528, z168_529, z168_530, z168_531, z168_532, z168_532s, z168_533, z168_536, z168_539, z168_540, z168_1020, z168_1023, Option.bind_some, Option.toList_some, Option.toList_none, List.cons_append, List.nil_append, sc_i, sc_r, sc_l, sc_u, sc_s, List.length_nil, List.length_cons, Nat.reduceAdd, Nat.reduceLeDiff, Nat.zero_le, le4_0, le4_1, le4_2, le4_3, rz0, rz1, rzt, eq_self, tI_0, tI_n0, if_true, if_false, ne_eq, not_true_eq_false, not_false_eq_true, and_self, Bool.false_eq_true, oc0 h.1, of0_0 h.1, og0_0 h.1, of0_1 h.1, og0_1 h.1, of0_2 h.1, og0_2 h.1, of0_3 h.1, og0_3 h.1, of0_4 h.1, og0_4 h.1, of0_5 h.1, og0_5 h.1, of0_6 h.1, og0_6 h.1, of0_7 h.1, og0_7 h.1, of0_8 h.1, og0_8 h.1, of0_9 h.1, og0_9 h.1, of0_10 h.1, og0_10 h.1, q1, inB_s (show i + 1 < X.1 by omega) hL, c_s (show i + 1 < 3072 by omega), q2, inB_s (show i + 2 < X.1 by omega) hL, c_s (show i + 2 < 3072 by omega), t1, o1, t2, q6]
theorem lw13 {X : Scr} {w : AW} {i : Nat} (h : SI w) (hL : X.1 ≤ 3072) (hi : i + 6 ≤ X.1) (hc : X.2 i &&& 31 = 13) : LPs X i w := by
  have q1 : nI i + 1 = nI (i + 1) := nI_1 i
  have q2 : nI i + 2 = nI (i + 2) := nI_k (k := 2)
  have q3 : nI i + 3 = nI (i + 3) := nI_k (k := 3)
  have q4 : nI i + 4 = nI (i + 4) := nI_k (k := 4)
  have q5 : nI i + 5 = nI (i + 5) := nI_k (k := 5)
  have q6 : nI i + 6 = nI (i + 6) := nI_k (k := 6)
  have z10 : ¬ (1 : Int32) = 0 := by decide
  unfold LPs
  rw [hc]
  obtain ⟨v, w1, w2, t1, t2, si⟩ := op_oldest (X := X)  h
  obtain ⟨x, rfl⟩ := Z_rI (by rfl) t1
  have o1 := Z_gro t1 64 9 (oc64 h.1)
  refine ⟨w2, ?_, si⟩
  simp only [z168_33c13, z168_541, z168_542, z168_545, z168_546, z168_549, z168_552, z168_553, z168_1020, z168_1023, Option.bind_some, Option.toList_some, Option.toList_none, List.cons_append, List.nil_append, sc_i, sc_r, sc_l, sc_u, sc_s, List.length_nil, List.length_cons, Nat.reduceAdd, Nat.reduceLeDiff, Nat.zero_le, le4_0, le4_1, le4_2, le4_3, rz0, rz1, rzt, eq_self, tI_0, tI_n0, if_true, if_false, ne_eq, not_true_eq_false, not_false_eq_true, and_self, Bool.false_eq_true, oc0 h.1, of0_0 h.1, og0_0 h.1, of0_1 h.1, og0_1 h.1, of0_2 h.1, og0_2 h.1, of0_3 h.1, og0_3 h.1, of0_4 h.1, og0_4 h.1, of0_5 h.1, og0_5 h.1, of0_6 h.1, og0_6 h.1, of0_7 h.1, og0_7 h.1, of0_8 h.1, og0_8 h.1, of0_9 h.1, og0_9 h.1, of0_10 h.1, og0_10 h.1, t1, o1, t2, q6]
theorem lw14 {X : Scr} {w : AW} {i : Nat} (h : SI w) (hL : X.1 ≤ 3072) (hi : i + 6 ≤ X.1) (hc : X.2 i &&& 31 = 14) : LPs X i w := by
  have q1 : nI i + 1 = nI (i + 1) := nI_1 i
  have q2 : nI i + 2 = nI (i + 2) := nI_k (k := 2)
  have q3 : nI i + 3 = nI (i + 3) := nI_k (k := 3)
  have q4 : nI i + 4 = nI (i + 4) := nI_k (k := 4)
  have q5 : nI i + 5 = nI (i + 5) := nI_k (k := 5)
  have q6 : nI i + 6 = nI (i + 6) := nI_k (k := 6)
  have z10 : ¬ (1 : Int32) = 0 := by decide
  unfold LPs
  rw [hc]
  obtain ⟨v, w1, w2, t1, t2, si⟩ := op_lent (X := X) (a := X.2 (i + 1)) (b := X.2 (i + 2)) (c := X.2 (i + 3)) h
  obtain ⟨x, rfl⟩ := Z_rI (by rfl) t1
  have o1 := Z_gro t1 64 9 (oc64 h.1)
  refine ⟨w2, ?_, si⟩
  simp only [z168_33c14, z168_554, z168_555, z168_556, z168_557, z168_558, z168_559, z168_559s, z168_560, z168_561, z168_562, z168_563, z168_564, z168_564s, z168_565, z168_566, z168_567, z168_568, z168_569, z168_569s, z168_570, z168_573, z168_574, z168_575, z168_576, z168_577, z168_578, z168_578s, z168_579, z168_580, z168_581, z168_582, z168_583, z168_583s, z168_584, z168_585, z168_586, z168_587, z168_588, z168_588s, z168_589, z168_592, z168_595, z168_596, z168_1020, z168_1023, Option.bind_some, Option.toList_some, Option.toList_none, List.cons_append, List.nil_append, sc_i, sc_r, sc_l, sc_u, sc_s, List.length_nil, List.length_cons, Nat.reduceAdd, Nat.reduceLeDiff, Nat.zero_le, le4_0, le4_1, le4_2, le4_3, rz0, rz1, rzt, eq_self, tI_0, tI_n0, if_true, if_false, ne_eq, not_true_eq_false, not_false_eq_true, and_self, Bool.false_eq_true, oc0 h.1, of0_0 h.1, og0_0 h.1, of0_1 h.1, og0_1 h.1, of0_2 h.1, og0_2 h.1, of0_3 h.1, og0_3 h.1, of0_4 h.1, og0_4 h.1, of0_5 h.1, og0_5 h.1, of0_6 h.1, og0_6 h.1, of0_7 h.1, og0_7 h.1, of0_8 h.1, og0_8 h.1, of0_9 h.1, og0_9 h.1, of0_10 h.1, og0_10 h.1, q1, inB_s (show i + 1 < X.1 by omega) hL, c_s (show i + 1 < 3072 by omega), q2, inB_s (show i + 2 < X.1 by omega) hL, c_s (show i + 2 < 3072 by omega), q3, inB_s (show i + 3 < X.1 by omega) hL, c_s (show i + 3 < 3072 by omega), t1, o1, t2, q6]
theorem lw15 {X : Scr} {w : AW} {i : Nat} (h : SI w) (hL : X.1 ≤ 3072) (hi : i + 6 ≤ X.1) (hc : X.2 i &&& 31 = 15) : LPs X i w := by
  have q1 : nI i + 1 = nI (i + 1) := nI_1 i
  have q2 : nI i + 2 = nI (i + 2) := nI_k (k := 2)
  have q3 : nI i + 3 = nI (i + 3) := nI_k (k := 3)
  have q4 : nI i + 4 = nI (i + 4) := nI_k (k := 4)
  have q5 : nI i + 5 = nI (i + 5) := nI_k (k := 5)
  have q6 : nI i + 6 = nI (i + 6) := nI_k (k := 6)
  have z10 : ¬ (1 : Int32) = 0 := by decide
  unfold LPs
  rw [hc]
  obtain ⟨v, w1, w2, t1, t2, si⟩ := op_stay (X := X) (a := X.2 (i + 1)) h
  obtain ⟨x, rfl⟩ := Z_rI (by rfl) t1
  have o1 := Z_gro t1 64 9 (oc64 h.1)
  refine ⟨w2, ?_, si⟩
  simp only [z168_33c15, z168_597, z168_598, z168_599, z168_600, z168_601, z168_602, z168_602s, z168_603, z168_606, z168_607, z168_608, z168_609, z168_610, z168_611, z168_611s, z168_612, z168_615, z168_618, z168_619, z168_1020, z168_1023, Option.bind_some, Option.toList_some, Option.toList_none, List.cons_append, List.nil_append, sc_i, sc_r, sc_l, sc_u, sc_s, List.length_nil, List.length_cons, Nat.reduceAdd, Nat.reduceLeDiff, Nat.zero_le, le4_0, le4_1, le4_2, le4_3, rz0, rz1, rzt, eq_self, tI_0, tI_n0, if_true, if_false, ne_eq, not_true_eq_false, not_false_eq_true, and_self, Bool.false_eq_true, oc0 h.1, of0_0 h.1, og0_0 h.1, of0_1 h.1, og0_1 h.1, of0_2 h.1, og0_2 h.1, of0_3 h.1, og0_3 h.1, of0_4 h.1, og0_4 h.1, of0_5 h.1, og0_5 h.1, of0_6 h.1, og0_6 h.1, of0_7 h.1, og0_7 h.1, of0_8 h.1, og0_8 h.1, of0_9 h.1, og0_9 h.1, of0_10 h.1, og0_10 h.1, q1, inB_s (show i + 1 < X.1 by omega) hL, c_s (show i + 1 < 3072 by omega), t1, o1, t2, q6]
theorem lw16 {X : Scr} {w : AW} {i : Nat} (h : SI w) (hL : X.1 ≤ 3072) (hi : i + 6 ≤ X.1) (hc : X.2 i &&& 31 = 16) : LPs X i w := by
  have q1 : nI i + 1 = nI (i + 1) := nI_1 i
  have q2 : nI i + 2 = nI (i + 2) := nI_k (k := 2)
  have q3 : nI i + 3 = nI (i + 3) := nI_k (k := 3)
  have q4 : nI i + 4 = nI (i + 4) := nI_k (k := 4)
  have q5 : nI i + 5 = nI (i + 5) := nI_k (k := 5)
  have q6 : nI i + 6 = nI (i + 6) := nI_k (k := 6)
  have z10 : ¬ (1 : Int32) = 0 := by decide
  unfold LPs
  rw [hc]
  obtain ⟨v, w1, w2, t1, t2, si⟩ := op_sent (X := X) (a := X.2 (i + 1)) (b := X.2 (i + 2)) (c := X.2 (i + 3)) (d := X.2 (i + 4)) h
  obtain ⟨x, rfl⟩ := Z_rI (by rfl) t1
  have o1 := Z_gro t1 64 9 (oc64 h.1)
  refine ⟨w2, ?_, si⟩
  simp only [z168_33c16, z168_620, z168_621, z168_622, z168_623, z168_624, z168_625, z168_625s, z168_626, z168_627, z168_628, z168_629, z168_630, z168_630s, z168_631, z168_632, z168_633, z168_634, z168_635, z168_635s, z168_636, z168_637, z168_638, z168_639, z168_640, z168_640s, z168_641, z168_644, z168_645, z168_646, z168_647, z168_648, z168_649, z168_649s, z168_650, z168_651, z168_652, z168_653, z168_654, z168_654s, z168_655, z168_656, z168_657, z168_658, z168_659, z168_659s, z168_660, z168_661, z168_662, z168_663, z168_664, z168_664s, z168_665, z168_668, z168_671, z168_672, z168_1020, z168_1023, Option.bind_some, Option.toList_some, Option.toList_none, List.cons_append, List.nil_append, sc_i, sc_r, sc_l, sc_u, sc_s, List.length_nil, List.length_cons, Nat.reduceAdd, Nat.reduceLeDiff, Nat.zero_le, le4_0, le4_1, le4_2, le4_3, rz0, rz1, rzt, eq_self, tI_0, tI_n0, if_true, if_false, ne_eq, not_true_eq_false, not_false_eq_true, and_self, Bool.false_eq_true, oc0 h.1, of0_0 h.1, og0_0 h.1, of0_1 h.1, og0_1 h.1, of0_2 h.1, og0_2 h.1, of0_3 h.1, og0_3 h.1, of0_4 h.1, og0_4 h.1, of0_5 h.1, og0_5 h.1, of0_6 h.1, og0_6 h.1, of0_7 h.1, og0_7 h.1, of0_8 h.1, og0_8 h.1, of0_9 h.1, og0_9 h.1, of0_10 h.1, og0_10 h.1, q1, inB_s (show i + 1 < X.1 by omega) hL, c_s (show i + 1 < 3072 by omega), q2, inB_s (show i + 2 < X.1 by omega) hL, c_s (show i + 2 < 3072 by omega), q3, inB_s (show i + 3 < X.1 by omega) hL, c_s (show i + 3 < 3072 by omega), q4, inB_s (show i + 4 < X.1 by omega) hL, c_s (show i + 4 < 3072 by omega), t1, o1, t2, q6]
theorem lw17 {X : Scr} {w : AW} {i : Nat} (h : SI w) (hL : X.1 ≤ 3072) (hi : i + 6 ≤ X.1) (hc : X.2 i &&& 31 = 17) : LPs X i w := by
  have q1 : nI i + 1 = nI (i + 1) := nI_1 i
  have q2 : nI i + 2 = nI (i + 2) := nI_k (k := 2)
  have q3 : nI i + 3 = nI (i + 3) := nI_k (k := 3)
  have q4 : nI i + 4 = nI (i + 4) := nI_k (k := 4)
  have q5 : nI i + 5 = nI (i + 5) := nI_k (k := 5)
  have q6 : nI i + 6 = nI (i + 6) := nI_k (k := 6)
  have z10 : ¬ (1 : Int32) = 0 := by decide
  unfold LPs
  rw [hc]
  by_cases hz : X.2 (i + 3) = 0
  · obtain ⟨v, w1, w2, t1, t2, si⟩ := op_seen (X := X) (a := X.2 (i + 1)) (b := X.2 (i + 2)) (c := 0) h (Or.inl rfl)
    obtain ⟨x, rfl⟩ := Z_rI (by rfl) t1
    have o1 := Z_gro t1 64 9 (oc64 h.1)
    refine ⟨w2, ?_, si⟩
    simp only [z168_33c17, z168_673, z168_674, z168_675, z168_676, z168_677, z168_678, z168_678s, z168_679, z168_680, z168_681, z168_682, z168_683, z168_683s, z168_684, z168_685, z168_686, z168_687, z168_688, z168_688s, z168_689, z168_692, z168_693, z168_696, z168_697, z168_700, z168_701, z168_702, z168_703, z168_704, z168_705, z168_705s, z168_706, z168_707, z168_708, z168_709, z168_710, z168_710s, z168_711, z168_712, z168_713, z168_714, z168_715, z168_715s, z168_716, z168_719, z168_720, z168_723, z168_724, z168_727, z168_730, z168_731, z168_1020, z168_1023, Option.bind_some, Option.toList_some, Option.toList_none, List.cons_append, List.nil_append, sc_i, sc_r, sc_l, sc_u, sc_s, List.length_nil, List.length_cons, Nat.reduceAdd, Nat.reduceLeDiff, Nat.zero_le, le4_0, le4_1, le4_2, le4_3, rz0, rz1, rzt, eq_self, tI_0, tI_n0, if_true, if_false, ne_eq, not_true_eq_false, not_false_eq_true, and_self, Bool.false_eq_true, oc0 h.1, of0_0 h.1, og0_0 h.1, of0_1 h.1, og0_1 h.1, of0_2 h.1, og0_2 h.1, of0_3 h.1, og0_3 h.1, of0_4 h.1, og0_4 h.1, of0_5 h.1, og0_5 h.1, of0_6 h.1, og0_6 h.1, of0_7 h.1, og0_7 h.1, of0_8 h.1, og0_8 h.1, of0_9 h.1, og0_9 h.1, of0_10 h.1, og0_10 h.1, q1, inB_s (show i + 1 < X.1 by omega) hL, c_s (show i + 1 < 3072 by omega), q2, inB_s (show i + 2 < X.1 by omega) hL, c_s (show i + 2 < 3072 by omega), q3, inB_s (show i + 3 < X.1 by omega) hL, c_s (show i + 3 < 3072 by omega), t1, o1, t2, hz, z10, q6]
  · obtain ⟨v, w1, w2, t1, t2, si⟩ := op_seen (X := X) (a := X.2 (i + 1)) (b := X.2 (i + 2)) (c := 1) h (Or.inr rfl)
    obtain ⟨x, rfl⟩ := Z_rI (by rfl) t1
    have o1 := Z_gro t1 64 9 (oc64 h.1)
    refine ⟨w2, ?_, si⟩
    simp only [z168_33c17, z168_673, z168_674, z168_675, z168_676, z168_677, z168_678, z168_678s, z168_679, z168_680, z168_681, z168_682, z168_683, z168_683s, z168_684, z168_685, z168_686, z168_687, z168_688, z168_688s, z168_689, z168_692, z168_693, z168_696, z168_697, z168_700, z168_701, z168_702, z168_703, z168_704, z168_705, z168_705s, z168_706, z168_707, z168_708, z168_709, z168_710, z168_710s, z168_711, z168_712, z168_713, z168_714, z168_715, z168_715s, z168_716, z168_719, z168_720, z168_723, z168_724, z168_727, z168_730, z168_731, z168_1020, z168_1023, Option.bind_some, Option.toList_some, Option.toList_none, List.cons_append, List.nil_append, sc_i, sc_r, sc_l, sc_u, sc_s, List.length_nil, List.length_cons, Nat.reduceAdd, Nat.reduceLeDiff, Nat.zero_le, le4_0, le4_1, le4_2, le4_3, rz0, rz1, rzt, eq_self, tI_0, tI_n0, if_true, if_false, ne_eq, not_true_eq_false, not_false_eq_true, and_self, Bool.false_eq_true, oc0 h.1, of0_0 h.1, og0_0 h.1, of0_1 h.1, og0_1 h.1, of0_2 h.1, og0_2 h.1, of0_3 h.1, og0_3 h.1, of0_4 h.1, og0_4 h.1, of0_5 h.1, og0_5 h.1, of0_6 h.1, og0_6 h.1, of0_7 h.1, og0_7 h.1, of0_8 h.1, og0_8 h.1, of0_9 h.1, og0_9 h.1, of0_10 h.1, og0_10 h.1, q1, inB_s (show i + 1 < X.1 by omega) hL, c_s (show i + 1 < 3072 by omega), q2, inB_s (show i + 2 < X.1 by omega) hL, c_s (show i + 2 < 3072 by omega), q3, inB_s (show i + 3 < X.1 by omega) hL, c_s (show i + 3 < 3072 by omega), t1, o1, t2, hz, z10, q6]
theorem lw18 {X : Scr} {w : AW} {i : Nat} (h : SI w) (hL : X.1 ≤ 3072) (hi : i + 6 ≤ X.1) (hc : X.2 i &&& 31 = 18) : LPs X i w := by
  have q1 : nI i + 1 = nI (i + 1) := nI_1 i
  have q2 : nI i + 2 = nI (i + 2) := nI_k (k := 2)
  have q3 : nI i + 3 = nI (i + 3) := nI_k (k := 3)
  have q4 : nI i + 4 = nI (i + 4) := nI_k (k := 4)
  have q5 : nI i + 5 = nI (i + 5) := nI_k (k := 5)
  have q6 : nI i + 6 = nI (i + 6) := nI_k (k := 6)
  have z10 : ¬ (1 : Int32) = 0 := by decide
  unfold LPs
  rw [hc]
  obtain ⟨v, w1, w2, t1, t2, si⟩ := op_forget (X := X)  h
  obtain ⟨x, rfl⟩ := Z_rI (by rfl) t1
  have o1 := Z_gro t1 64 9 (oc64 h.1)
  refine ⟨w2, ?_, si⟩
  simp only [z168_33c18, z168_732, z168_733, z168_736, z168_737, z168_740, z168_743, z168_744, z168_1020, z168_1023, Option.bind_some, Option.toList_some, Option.toList_none, List.cons_append, List.nil_append, sc_i, sc_r, sc_l, sc_u, sc_s, List.length_nil, List.length_cons, Nat.reduceAdd, Nat.reduceLeDiff, Nat.zero_le, le4_0, le4_1, le4_2, le4_3, rz0, rz1, rzt, eq_self, tI_0, tI_n0, if_true, if_false, ne_eq, not_true_eq_false, not_false_eq_true, and_self, Bool.false_eq_true, oc0 h.1, of0_0 h.1, og0_0 h.1, of0_1 h.1, og0_1 h.1, of0_2 h.1, og0_2 h.1, of0_3 h.1, og0_3 h.1, of0_4 h.1, og0_4 h.1, of0_5 h.1, og0_5 h.1, of0_6 h.1, og0_6 h.1, of0_7 h.1, og0_7 h.1, of0_8 h.1, og0_8 h.1, of0_9 h.1, og0_9 h.1, of0_10 h.1, og0_10 h.1, t1, o1, t2, q6]
theorem lw19 {X : Scr} {w : AW} {i : Nat} (h : SI w) (hL : X.1 ≤ 3072) (hi : i + 6 ≤ X.1) (hc : X.2 i &&& 31 = 19) : LPs X i w := by
  have q1 : nI i + 1 = nI (i + 1) := nI_1 i
  have q2 : nI i + 2 = nI (i + 2) := nI_k (k := 2)
  have q3 : nI i + 3 = nI (i + 3) := nI_k (k := 3)
  have q4 : nI i + 4 = nI (i + 4) := nI_k (k := 4)
  have q5 : nI i + 5 = nI (i + 5) := nI_k (k := 5)
  have q6 : nI i + 6 = nI (i + 6) := nI_k (k := 6)
  have z10 : ¬ (1 : Int32) = 0 := by decide
  unfold LPs
  rw [hc]
  obtain ⟨v, w1, w2, t1, t2, si⟩ := op_fits (X := X) (k := X.2 (i + 1)) h
  obtain ⟨x, rfl⟩ := Z_rI (by rfl) t1
  have o1 := Z_gro t1 64 9 (oc64 h.1)
  refine ⟨w2, ?_, si⟩
  simp only [z168_33c19, z168_745, z168_746, z168_747, z168_748, z168_749, z168_750, z168_750s, z168_751, z168_754, z168_755, z168_756, z168_757, z168_758, z168_759, z168_759s, z168_760, z168_763, z168_766, z168_767, z168_1020, z168_1023, Option.bind_some, Option.toList_some, Option.toList_none, List.cons_append, List.nil_append, sc_i, sc_r, sc_l, sc_u, sc_s, List.length_nil, List.length_cons, Nat.reduceAdd, Nat.reduceLeDiff, Nat.zero_le, le4_0, le4_1, le4_2, le4_3, rz0, rz1, rzt, eq_self, tI_0, tI_n0, if_true, if_false, ne_eq, not_true_eq_false, not_false_eq_true, and_self, Bool.false_eq_true, oc0 h.1, of0_0 h.1, og0_0 h.1, of0_1 h.1, og0_1 h.1, of0_2 h.1, og0_2 h.1, of0_3 h.1, og0_3 h.1, of0_4 h.1, og0_4 h.1, of0_5 h.1, og0_5 h.1, of0_6 h.1, og0_6 h.1, of0_7 h.1, og0_7 h.1, of0_8 h.1, og0_8 h.1, of0_9 h.1, og0_9 h.1, of0_10 h.1, og0_10 h.1, q1, inB_s (show i + 1 < X.1 by omega) hL, c_s (show i + 1 < 3072 by omega), t1, o1, t2, q6]
theorem lw20 {X : Scr} {w : AW} {i : Nat} (h : SI w) (hL : X.1 ≤ 3072) (hi : i + 6 ≤ X.1) (hc : X.2 i &&& 31 = 20) : LPs X i w := by
  have q1 : nI i + 1 = nI (i + 1) := nI_1 i
  have q2 : nI i + 2 = nI (i + 2) := nI_k (k := 2)
  have q3 : nI i + 3 = nI (i + 3) := nI_k (k := 3)
  have q4 : nI i + 4 = nI (i + 4) := nI_k (k := 4)
  have q5 : nI i + 5 = nI (i + 5) := nI_k (k := 5)
  have q6 : nI i + 6 = nI (i + 6) := nI_k (k := 6)
  have z10 : ¬ (1 : Int32) = 0 := by decide
  unfold LPs
  rw [hc]
  obtain ⟨v, w1, w2, t1, t2, si⟩ := op_ask (X := X) (k := X.2 (i + 1)) h
  obtain ⟨x, rfl⟩ := Z_rI (by rfl) t1
  have o1 := Z_gro t1 64 9 (oc64 h.1)
  refine ⟨w2, ?_, si⟩
  simp only [z168_33c20, z168_768, z168_769, z168_770, z168_771, z168_772, z168_773, z168_773s, z168_774, z168_777, z168_778, z168_779, z168_780, z168_781, z168_782, z168_782s, z168_783, z168_786, z168_789, z168_790, z168_1020, z168_1023, Option.bind_some, Option.toList_some, Option.toList_none, List.cons_append, List.nil_append, sc_i, sc_r, sc_l, sc_u, sc_s, List.length_nil, List.length_cons, Nat.reduceAdd, Nat.reduceLeDiff, Nat.zero_le, le4_0, le4_1, le4_2, le4_3, rz0, rz1, rzt, eq_self, tI_0, tI_n0, if_true, if_false, ne_eq, not_true_eq_false, not_false_eq_true, and_self, Bool.false_eq_true, oc0 h.1, of0_0 h.1, og0_0 h.1, of0_1 h.1, og0_1 h.1, of0_2 h.1, og0_2 h.1, of0_3 h.1, og0_3 h.1, of0_4 h.1, og0_4 h.1, of0_5 h.1, og0_5 h.1, of0_6 h.1, og0_6 h.1, of0_7 h.1, og0_7 h.1, of0_8 h.1, og0_8 h.1, of0_9 h.1, og0_9 h.1, of0_10 h.1, og0_10 h.1, q1, inB_s (show i + 1 < X.1 by omega) hL, c_s (show i + 1 < 3072 by omega), t1, o1, t2, q6]
theorem lw21 {X : Scr} {w : AW} {i : Nat} (h : SI w) (hL : X.1 ≤ 3072) (hi : i + 6 ≤ X.1) (hc : X.2 i &&& 31 = 21) : LPs X i w := by
  have q1 : nI i + 1 = nI (i + 1) := nI_1 i
  have q2 : nI i + 2 = nI (i + 2) := nI_k (k := 2)
  have q3 : nI i + 3 = nI (i + 3) := nI_k (k := 3)
  have q4 : nI i + 4 = nI (i + 4) := nI_k (k := 4)
  have q5 : nI i + 5 = nI (i + 5) := nI_k (k := 5)
  have q6 : nI i + 6 = nI (i + 6) := nI_k (k := 6)
  have z10 : ¬ (1 : Int32) = 0 := by decide
  unfold LPs
  rw [hc]
  obtain ⟨v, w1, w2, t1, t2, si⟩ := op_waits (X := X) (a := X.2 (i + 1)) (b := X.2 (i + 2)) (c := X.2 (i + 3)) (d := X.2 (i + 4)) h
  obtain ⟨x, rfl⟩ := Z_rI (by rfl) t1
  have o1 := Z_gro t1 64 9 (oc64 h.1)
  refine ⟨w2, ?_, si⟩
  simp only [z168_33c21, z168_791, z168_792, z168_793, z168_794, z168_795, z168_796, z168_796s, z168_797, z168_798, z168_799, z168_800, z168_801, z168_801s, z168_802, z168_803, z168_804, z168_805, z168_806, z168_806s, z168_807, z168_808, z168_809, z168_810, z168_811, z168_811s, z168_812, z168_815, z168_816, z168_817, z168_818, z168_819, z168_820, z168_820s, z168_821, z168_822, z168_823, z168_824, z168_825, z168_825s, z168_826, z168_827, z168_828, z168_829, z168_830, z168_830s, z168_831, z168_832, z168_833, z168_834, z168_835, z168_835s, z168_836, z168_839, z168_842, z168_843, z168_1020, z168_1023, Option.bind_some, Option.toList_some, Option.toList_none, List.cons_append, List.nil_append, sc_i, sc_r, sc_l, sc_u, sc_s, List.length_nil, List.length_cons, Nat.reduceAdd, Nat.reduceLeDiff, Nat.zero_le, le4_0, le4_1, le4_2, le4_3, rz0, rz1, rzt, eq_self, tI_0, tI_n0, if_true, if_false, ne_eq, not_true_eq_false, not_false_eq_true, and_self, Bool.false_eq_true, oc0 h.1, of0_0 h.1, og0_0 h.1, of0_1 h.1, og0_1 h.1, of0_2 h.1, og0_2 h.1, of0_3 h.1, og0_3 h.1, of0_4 h.1, og0_4 h.1, of0_5 h.1, og0_5 h.1, of0_6 h.1, og0_6 h.1, of0_7 h.1, og0_7 h.1, of0_8 h.1, og0_8 h.1, of0_9 h.1, og0_9 h.1, of0_10 h.1, og0_10 h.1, q1, inB_s (show i + 1 < X.1 by omega) hL, c_s (show i + 1 < 3072 by omega), q2, inB_s (show i + 2 < X.1 by omega) hL, c_s (show i + 2 < 3072 by omega), q3, inB_s (show i + 3 < X.1 by omega) hL, c_s (show i + 3 < 3072 by omega), q4, inB_s (show i + 4 < X.1 by omega) hL, c_s (show i + 4 < 3072 by omega), t1, o1, t2, q6]
theorem lw22 {X : Scr} {w : AW} {i : Nat} (h : SI w) (hL : X.1 ≤ 3072) (hi : i + 6 ≤ X.1) (hc : X.2 i &&& 31 = 22) : LPs X i w := by
  have q1 : nI i + 1 = nI (i + 1) := nI_1 i
  have q2 : nI i + 2 = nI (i + 2) := nI_k (k := 2)
  have q3 : nI i + 3 = nI (i + 3) := nI_k (k := 3)
  have q4 : nI i + 4 = nI (i + 4) := nI_k (k := 4)
  have q5 : nI i + 5 = nI (i + 5) := nI_k (k := 5)
  have q6 : nI i + 6 = nI (i + 6) := nI_k (k := 6)
  have z10 : ¬ (1 : Int32) = 0 := by decide
  unfold LPs
  rw [hc]
  obtain ⟨v, w1, w2, t1, t2, si⟩ := op_door (X := X) (a := X.2 (i + 1)) (b := X.2 (i + 2)) (c := X.2 (i + 3)) (d := X.2 (i + 4)) (e := X.2 (i + 5)) h
  obtain ⟨x, rfl⟩ := Z_rL (by rfl) t1
  have o1 := Z_gro t1 64 9 (oc64 h.1)
  refine ⟨w2, ?_, si⟩
  simp only [z168_33c22, z168_844, z168_845, z168_846, z168_847, z168_848, z168_849, z168_849s, z168_850, z168_851, z168_852, z168_853, z168_854, z168_854s, z168_855, z168_856, z168_857, z168_858, z168_859, z168_859s, z168_860, z168_861, z168_862, z168_863, z168_864, z168_864s, z168_865, z168_866, z168_867, z168_868, z168_869, z168_869s, z168_870, z168_873, z168_874, z168_875, z168_876, z168_877, z168_878, z168_878s, z168_879, z168_880, z168_881, z168_882, z168_883, z168_883s, z168_884, z168_885, z168_886, z168_887, z168_888, z168_888s, z168_889, z168_890, z168_891, z168_892, z168_893, z168_893s, z168_894, z168_895, z168_896, z168_897, z168_898, z168_898s, z168_899, z168_902, z168_903, z168_906, z168_907, z168_1020, z168_1023, Option.bind_some, Option.toList_some, Option.toList_none, List.cons_append, List.nil_append, sc_i, sc_r, sc_l, sc_u, sc_s, List.length_nil, List.length_cons, Nat.reduceAdd, Nat.reduceLeDiff, Nat.zero_le, le4_0, le4_1, le4_2, le4_3, rz0, rz1, rzt, eq_self, tI_0, tI_n0, if_true, if_false, ne_eq, not_true_eq_false, not_false_eq_true, and_self, Bool.false_eq_true, oc0 h.1, of0_0 h.1, og0_0 h.1, of0_1 h.1, og0_1 h.1, of0_2 h.1, og0_2 h.1, of0_3 h.1, og0_3 h.1, of0_4 h.1, og0_4 h.1, of0_5 h.1, og0_5 h.1, of0_6 h.1, og0_6 h.1, of0_7 h.1, og0_7 h.1, of0_8 h.1, og0_8 h.1, of0_9 h.1, og0_9 h.1, of0_10 h.1, og0_10 h.1, q1, inB_s (show i + 1 < X.1 by omega) hL, c_s (show i + 1 < 3072 by omega), q2, inB_s (show i + 2 < X.1 by omega) hL, c_s (show i + 2 < 3072 by omega), q3, inB_s (show i + 3 < X.1 by omega) hL, c_s (show i + 3 < 3072 by omega), q4, inB_s (show i + 4 < X.1 by omega) hL, c_s (show i + 4 < 3072 by omega), q5, inB_s (show i + 5 < X.1 by omega) hL, c_s (show i + 5 < 3072 by omega), t1, o1, t2, lg_rf, q6]
theorem lw23 {X : Scr} {w : AW} {i : Nat} (h : SI w) (hL : X.1 ≤ 3072) (hi : i + 6 ≤ X.1) (hc : X.2 i &&& 31 = 23) : LPs X i w := by
  have q1 : nI i + 1 = nI (i + 1) := nI_1 i
  have q2 : nI i + 2 = nI (i + 2) := nI_k (k := 2)
  have q3 : nI i + 3 = nI (i + 3) := nI_k (k := 3)
  have q4 : nI i + 4 = nI (i + 4) := nI_k (k := 4)
  have q5 : nI i + 5 = nI (i + 5) := nI_k (k := 5)
  have q6 : nI i + 6 = nI (i + 6) := nI_k (k := 6)
  have z10 : ¬ (1 : Int32) = 0 := by decide
  unfold LPs
  rw [hc]
  obtain ⟨v, w1, w2, t1, t2, si⟩ := op_year (X := X) (a := X.2 (i + 1)) (b := X.2 (i + 2)) (c := X.2 (i + 3)) h
  obtain ⟨x, rfl⟩ := Z_rI (by rfl) t1
  have o1 := Z_gro t1 64 9 (oc64 h.1)
  refine ⟨w2, ?_, si⟩
  simp only [z168_33c23, z168_908, z168_909, z168_910, z168_911, z168_912, z168_913, z168_913s, z168_914, z168_915, z168_916, z168_917, z168_918, z168_918s, z168_919, z168_920, z168_921, z168_922, z168_923, z168_923s, z168_924, z168_927, z168_928, z168_929, z168_930, z168_931, z168_932, z168_932s, z168_933, z168_934, z168_935, z168_936, z168_937, z168_937s, z168_938, z168_939, z168_940, z168_941, z168_942, z168_942s, z168_943, z168_946, z168_949, z168_950, z168_1020, z168_1023, Option.bind_some, Option.toList_some, Option.toList_none, List.cons_append, List.nil_append, sc_i, sc_r, sc_l, sc_u, sc_s, List.length_nil, List.length_cons, Nat.reduceAdd, Nat.reduceLeDiff, Nat.zero_le, le4_0, le4_1, le4_2, le4_3, rz0, rz1, rzt, eq_self, tI_0, tI_n0, if_true, if_false, ne_eq, not_true_eq_false, not_false_eq_true, and_self, Bool.false_eq_true, oc0 h.1, of0_0 h.1, og0_0 h.1, of0_1 h.1, og0_1 h.1, of0_2 h.1, og0_2 h.1, of0_3 h.1, og0_3 h.1, of0_4 h.1, og0_4 h.1, of0_5 h.1, og0_5 h.1, of0_6 h.1, og0_6 h.1, of0_7 h.1, og0_7 h.1, of0_8 h.1, og0_8 h.1, of0_9 h.1, og0_9 h.1, of0_10 h.1, og0_10 h.1, q1, inB_s (show i + 1 < X.1 by omega) hL, c_s (show i + 1 < 3072 by omega), q2, inB_s (show i + 2 < X.1 by omega) hL, c_s (show i + 2 < 3072 by omega), q3, inB_s (show i + 3 < X.1 by omega) hL, c_s (show i + 3 < 3072 by omega), t1, o1, t2, q6]
theorem lw24 {X : Scr} {w : AW} {i : Nat} (h : SI w) (hL : X.1 ≤ 3072) (hi : i + 6 ≤ X.1) (hc : X.2 i &&& 31 = 24) : LPs X i w := by
  have q1 : nI i + 1 = nI (i + 1) := nI_1 i
  have q2 : nI i + 2 = nI (i + 2) := nI_k (k := 2)
  have q3 : nI i + 3 = nI (i + 3) := nI_k (k := 3)
  have q4 : nI i + 4 = nI (i + 4) := nI_k (k := 4)
  have q5 : nI i + 5 = nI (i + 5) := nI_k (k := 5)
  have q6 : nI i + 6 = nI (i + 6) := nI_k (k := 6)
  have z10 : ¬ (1 : Int32) = 0 := by decide
  unfold LPs
  rw [hc]
  obtain ⟨v, w1, w2, t1, t2, si⟩ := op_image (X := X) (a := X.2 (i + 1)) h
  obtain ⟨x, rfl⟩ := Z_rI (by rfl) t1
  have o1 := Z_gro t1 64 9 (oc64 h.1)
  refine ⟨w2, ?_, si⟩
  simp only [z168_33c24, z168_951, z168_952, z168_953, z168_954, z168_955, z168_956, z168_956s, z168_957, z168_960, z168_961, z168_962, z168_963, z168_964, z168_965, z168_965s, z168_966, z168_969, z168_972, z168_973, z168_1020, z168_1023, Option.bind_some, Option.toList_some, Option.toList_none, List.cons_append, List.nil_append, sc_i, sc_r, sc_l, sc_u, sc_s, List.length_nil, List.length_cons, Nat.reduceAdd, Nat.reduceLeDiff, Nat.zero_le, le4_0, le4_1, le4_2, le4_3, rz0, rz1, rzt, eq_self, tI_0, tI_n0, if_true, if_false, ne_eq, not_true_eq_false, not_false_eq_true, and_self, Bool.false_eq_true, oc0 h.1, of0_0 h.1, og0_0 h.1, of0_1 h.1, og0_1 h.1, of0_2 h.1, og0_2 h.1, of0_3 h.1, og0_3 h.1, of0_4 h.1, og0_4 h.1, of0_5 h.1, og0_5 h.1, of0_6 h.1, og0_6 h.1, of0_7 h.1, og0_7 h.1, of0_8 h.1, og0_8 h.1, of0_9 h.1, og0_9 h.1, of0_10 h.1, og0_10 h.1, q1, inB_s (show i + 1 < X.1 by omega) hL, c_s (show i + 1 < 3072 by omega), t1, o1, t2, q6]
theorem lw25 {X : Scr} {w : AW} {i : Nat} (h : SI w) (hL : X.1 ≤ 3072) (hi : i + 6 ≤ X.1) (hc : X.2 i &&& 31 = 25) : LPs X i w := by
  have q1 : nI i + 1 = nI (i + 1) := nI_1 i
  have q2 : nI i + 2 = nI (i + 2) := nI_k (k := 2)
  have q3 : nI i + 3 = nI (i + 3) := nI_k (k := 3)
  have q4 : nI i + 4 = nI (i + 4) := nI_k (k := 4)
  have q5 : nI i + 5 = nI (i + 5) := nI_k (k := 5)
  have q6 : nI i + 6 = nI (i + 6) := nI_k (k := 6)
  have z10 : ¬ (1 : Int32) = 0 := by decide
  unfold LPs
  rw [hc]
  obtain ⟨v, w1, w2, t1, t2, si⟩ := op_restore (X := X) (a := X.2 (i + 1)) h
  obtain ⟨x, rfl⟩ := Z_rI (by rfl) t1
  have o1 := Z_gro t1 64 9 (oc64 h.1)
  refine ⟨w2, ?_, si⟩
  simp only [z168_33c25, z168_974, z168_975, z168_976, z168_977, z168_978, z168_979, z168_979s, z168_980, z168_983, z168_984, z168_985, z168_986, z168_987, z168_988, z168_988s, z168_989, z168_992, z168_995, z168_996, z168_1020, z168_1023, Option.bind_some, Option.toList_some, Option.toList_none, List.cons_append, List.nil_append, sc_i, sc_r, sc_l, sc_u, sc_s, List.length_nil, List.length_cons, Nat.reduceAdd, Nat.reduceLeDiff, Nat.zero_le, le4_0, le4_1, le4_2, le4_3, rz0, rz1, rzt, eq_self, tI_0, tI_n0, if_true, if_false, ne_eq, not_true_eq_false, not_false_eq_true, and_self, Bool.false_eq_true, oc0 h.1, of0_0 h.1, og0_0 h.1, of0_1 h.1, og0_1 h.1, of0_2 h.1, og0_2 h.1, of0_3 h.1, og0_3 h.1, of0_4 h.1, og0_4 h.1, of0_5 h.1, og0_5 h.1, of0_6 h.1, og0_6 h.1, of0_7 h.1, og0_7 h.1, of0_8 h.1, og0_8 h.1, of0_9 h.1, og0_9 h.1, of0_10 h.1, og0_10 h.1, q1, inB_s (show i + 1 < X.1 by omega) hL, c_s (show i + 1 < 3072 by omega), t1, o1, t2, q6]
theorem lw26 {X : Scr} {w : AW} {i : Nat} (h : SI w) (hL : X.1 ≤ 3072) (hi : i + 6 ≤ X.1) (hc : X.2 i &&& 31 = 26) : LPs X i w := by
  have q1 : nI i + 1 = nI (i + 1) := nI_1 i
  have q2 : nI i + 2 = nI (i + 2) := nI_k (k := 2)
  have q3 : nI i + 3 = nI (i + 3) := nI_k (k := 3)
  have q4 : nI i + 4 = nI (i + 4) := nI_k (k := 4)
  have q5 : nI i + 5 = nI (i + 5) := nI_k (k := 5)
  have q6 : nI i + 6 = nI (i + 6) := nI_k (k := 6)
  have z10 : ¬ (1 : Int32) = 0 := by decide
  unfold LPs
  rw [hc]
  obtain ⟨v, w1, w2, t1, t2, si⟩ := op_told (X := X) (a := X.2 (i + 1)) h
  obtain ⟨x, rfl⟩ := Z_rI (by rfl) t1
  have o1 := Z_gro t1 64 9 (oc64 h.1)
  refine ⟨w2, ?_, si⟩
  simp only [z168_33c26, z168_997, z168_998, z168_999, z168_1000, z168_1001, z168_1002, z168_1002s, z168_1003, z168_1006, z168_1007, z168_1008, z168_1009, z168_1010, z168_1011, z168_1011s, z168_1012, z168_1015, z168_1018, z168_1019, z168_1020, z168_1023, Option.bind_some, Option.toList_some, Option.toList_none, List.cons_append, List.nil_append, sc_i, sc_r, sc_l, sc_u, sc_s, List.length_nil, List.length_cons, Nat.reduceAdd, Nat.reduceLeDiff, Nat.zero_le, le4_0, le4_1, le4_2, le4_3, rz0, rz1, rzt, eq_self, tI_0, tI_n0, if_true, if_false, ne_eq, not_true_eq_false, not_false_eq_true, and_self, Bool.false_eq_true, oc0 h.1, of0_0 h.1, og0_0 h.1, of0_1 h.1, og0_1 h.1, of0_2 h.1, og0_2 h.1, of0_3 h.1, og0_3 h.1, of0_4 h.1, og0_4 h.1, of0_5 h.1, og0_5 h.1, of0_6 h.1, og0_6 h.1, of0_7 h.1, og0_7 h.1, of0_8 h.1, og0_8 h.1, of0_9 h.1, og0_9 h.1, of0_10 h.1, og0_10 h.1, q1, inB_s (show i + 1 < X.1 by omega) hL, c_s (show i + 1 < 3072 by omega), t1, o1, t2, q6]
