/-! acts as functions: breaths, living, holder, saved -/
abbrev DS : Type := (Nat → Int32) × Int32 × Int32 × Int32
theorem nI_and {a b : Nat} (ha : a < 256) (hb : b < 2 ^ 32) : nI a &&& nI b = nI (a &&& b) := by
  apply Int32.toBitVec_inj.mp
  apply BitVec.eq_of_toNat_eq
  have h : a &&& b ≤ a := Nat.and_le_left
  rw [Int32.toBitVec_and, BitVec.toNat_and, pk_tn (by omega), pk_tn hb, pk_tn (by omega)]
theorem rng_and {x y : Int32} (hx : rng x 255) (hy : rng y 255) : rng (x &&& y) 255 := by
  obtain ⟨a, h1, rfl⟩ := hx
  obtain ⟨b, h2, rfl⟩ := hy
  have h : a &&& b ≤ a := Nat.and_le_left
  exact ⟨a &&& b, by omega, nI_and (by omega) (by omega)⟩
theorem zb_k : ∀ l, l < 256 → (∀ i, i < 8 → bq (nI l) i = false) → nI l = 0 := by decide +kernel
theorem oldC_c {f h : Nat → Int32} {s : Int32} (e : ∀ i, i < 8 → f i = h i) : ∀ n, n ≤ 8 → ∀ fd fa : Int32, oldC f s n fd fa = oldC h s n fd fa := by
  intro n
  induction n with
  | zero => intro _ fd fa; rfl
  | succ n ih => intro hn fd fa; rw [oldC, oldC, e (7 - n) (by omega), ih (by omega), ih (by omega)]
def oldA (ag : Nat → Int32) (s : Int32) : Int32 := oldC ag s 8 (-6) (-1)
def heirA (ag ti : Nat → Int32) (l : Int32) (j : Nat) : Int32 := if oldA ag (l &&& ti j) = -6 then oldA ag l else oldA ag (l &&& ti j)
def whyA (ag ti : Nat → Int32) (d : DS) (k j t : Nat) : Int32 := if k = 4 then (if oldA ag d.2.1 = -6 ∨ oldA ag d.2.1 = d.2.2.1 then 5 else 0) else if k = 0 then whyLend d.2.1 d.2.2.1 ti j t else if k = 2 then (if bq d.2.1 j = true then (if d.1 j < 99 then 0 else 4) else 1) else if bq d.2.1 j = true then 0 else 1
def doA (ag ti : Nat → Int32) (d : DS) (k j t : Nat) : DS := if k = 4 then (d.1, d.2.1, oldA ag d.2.1, d.2.2.2) else if k = 0 then (d.1, d.2.1, nI t, d.2.2.2) else if k = 2 then (upd d.1 j (rst (d.1 j)), d.2.1, d.2.2.1, d.2.2.2) else (d.1, dieL d.2.1 j, (if d.2.2.1 = nI j then heirA ag ti (dieL d.2.1 j) j else d.2.2.1), d.2.2.2)
def sayA (le : Nat → Int32) (d : DS) (j t : Nat) : DS := if d.2.2.1 = nI j ∧ bq (le j) t = true then (upd d.1 j (bal (d.1 j)), d.2.1, d.2.2.1, d.2.2.2 + d.1 j) else d
def sayN (le : Nat → Int32) (f : Nat → Nat) (j : Nat) : Nat → Nat → DS → DS
  | 0, _, d => d
  | n + 1, i, d => sayN le f j n (i + 1) (sayA le d j (f i))
def DI (d : DS) : Prop := (∀ i, i < 8 → rng (d.1 i) 99) ∧ rng d.2.1 255 ∧ (d.2.2.1 = -6 ∨ ∃ j, j < 8 ∧ d.2.2.1 = nI j ∧ bq d.2.1 j = true)
def STc (ag ti : Nat → Int32) : Prop := (∀ i, i < 8 → 0 ≤ (ag i).toInt) ∧ ∀ i, i < 8 → rng (ti i) 255
theorem old_in {ag ti : Nat → Int32} (h : STc ag ti) (s : Int32) : (oldA ag s = -6 ∧ ∀ i, i < 8 → bq s i = false) ∨ ∃ j, j < 8 ∧ oldA ag s = nI j ∧ bq s j = true := oldC_in h.1
theorem bq_0 : ∀ i, i < 8 → bq 0 i = false := by decide
theorem old_z {ag ti : Nat → Int32} (h : STc ag ti) {s : Int32} (hs : rng s 255) : oldA ag s = -6 ↔ s = 0 := by
  obtain ⟨l, hl, rfl⟩ := hs
  refine ⟨fun q => ?_, fun q => ?_⟩
  · rcases old_in h (nI l) with ⟨-, z⟩ | ⟨j, h1, h2, -⟩
    · exact zb_k l (by omega) z
    · rw [h2] at q
      exact absurd q (nI_n6 (by omega))
  · rcases old_in h (nI l) with ⟨z, -⟩ | ⟨j, h1, -, h2⟩
    · exact z
    · rw [q, bq_0 j h1] at h2
      cases h2
theorem die_k : ∀ l, l < 256 → ∀ j, j < 8 → ∀ i, i < 8 → i ≠ j → bq (dieL (nI l) j) i = bq (nI l) i := by decide +kernel
theorem die_r {x : Int32} {j : Nat} (h : rng x 255) (hj : j < 8) : rng (dieL x j) 255 := by
  obtain ⟨l, hl, rfl⟩ := h
  unfold dieL
  rw [land_k l (by omega) j hj]
  exact ⟨_, by omega, rfl⟩
theorem rst_k : ∀ n, n < 100 → rst (nI n) = rstM (nI n) ∧ rng (rst (nI n)) 99 := by
  have h : ∀ n, n < 100 → rst (nI n) = rstM (nI n) ∧ rst (nI n) = nI (min 99 (n + 20)) := by decide +kernel
  intro n hn
  exact ⟨(h n hn).1, _, by omega, (h n hn).2⟩
theorem lt99_k : ∀ n, n < 100 → (¬ nI n < 99 ↔ nI n = 99) := by decide +kernel
theorem DI_do {ag ti : Nat → Int32} {d : DS} {k j t : Nat} (hs : STc ag ti) (h : DI d) (hj : j < 8) (ht : t < 8) (hw : whyA ag ti d k j t = 0) : DI (doA ag ti d k j t) := by
  obtain ⟨h1, h2, h3⟩ := h
  unfold whyA at hw
  unfold doA
  by_cases k4 : k = 4
  · rw [if_pos k4] at hw ⊢
    refine ⟨h1, h2, ?_⟩
    rcases old_in hs d.2.1 with ⟨z, -⟩ | ⟨i, z1, z2, z3⟩
    · exact Or.inl z
    · exact Or.inr ⟨i, z1, z2, z3⟩
  · rw [if_neg k4] at hw ⊢
    by_cases k0 : k = 0
    · rw [if_pos k0] at hw ⊢
      refine ⟨h1, h2, Or.inr ⟨t, ht, rfl, ?_⟩⟩
      unfold whyLend at hw
      by_cases z : bq d.2.1 j = true ∧ bq d.2.1 t = true
      · exact z.2
      · rw [if_neg z] at hw
        exact absurd hw (by decide)
    · rw [if_neg k0] at hw ⊢
      by_cases k2 : k = 2
      · rw [if_pos k2]
        refine ⟨fun i hi => ?_, h2, h3⟩
        show rng (upd d.1 j (rst (d.1 j)) i) 99
        rw [updI]
        by_cases z : i = j
        · rw [if_pos z]
          obtain ⟨n, hn, e⟩ := h1 j hj
          rw [e]
          exact (rst_k n (by omega)).2
        · rw [if_neg z]; exact h1 i hi
      · rw [if_neg k2]
        refine ⟨h1, die_r h2 hj, ?_⟩
        show (if d.2.2.1 = nI j then heirA ag ti (dieL d.2.1 j) j else d.2.2.1) = -6 ∨ ∃ i, i < 8 ∧ (if d.2.2.1 = nI j then heirA ag ti (dieL d.2.1 j) j else d.2.2.1) = nI i ∧ bq (dieL d.2.1 j) i = true
        by_cases z : d.2.2.1 = nI j
        · rw [if_pos z]
          unfold heirA
          by_cases y : oldA ag (dieL d.2.1 j &&& ti j) = -6
          · rw [if_pos y]
            rcases old_in hs (dieL d.2.1 j) with ⟨z, -⟩ | ⟨i, z1, z2, z3⟩
            · exact Or.inl z
            · exact Or.inr ⟨i, z1, z2, z3⟩
          · rw [if_neg y]
            rcases old_in hs (dieL d.2.1 j &&& ti j) with ⟨z, -⟩ | ⟨i, z1, z2, z3⟩
            · exact Or.inl z
            · rw [Int32.and_comm] at z3
              exact Or.inr ⟨i, z1, z2, bq_and z3⟩
        · rw [if_neg z]
          rcases h3 with q | ⟨i, q1, q2, q3⟩
          · exact Or.inl q
          · have hij : i ≠ j := fun e => z (by rw [q2, e])
            obtain ⟨l, hl, e⟩ := h2
            refine Or.inr ⟨i, q1, q2, ?_⟩
            rw [e, die_k l (by omega) j hj i q1 hij, ← e]
            exact q3
theorem DI_say {le : Nat → Int32} {d : DS} {j t : Nat} (h : DI d) (hj : j < 8) : DI (sayA le d j t) := by
  obtain ⟨h1, h2, h3⟩ := id h
  unfold sayA
  by_cases c : d.2.2.1 = nI j ∧ bq (le j) t = true
  · rw [if_pos c]
    refine ⟨fun i hi => ?_, h2, h3⟩
    show rng (upd d.1 j (bal (d.1 j)) i) 99
    rw [updI]
    by_cases z : i = j
    · rw [if_pos z]
      obtain ⟨n, hn, e⟩ := h1 j hj
      rw [e, (bal_n n (by omega)).1]
      exact ⟨n - 10, by omega, rfl⟩
    · rw [if_neg z]; exact h1 i hi
  · rw [if_neg c]; exact h
theorem DI_sayN {le : Nat → Int32} {f : Nat → Nat} {j : Nat} (hj : j < 8) : ∀ n i d, DI d → DI (sayN le f j n i d) := by
  intro n
  induction n with
  | zero => intro i d h; exact h
  | succ n ih => intro i d h; exact ih (i + 1) _ (DI_say h hj)
/-- a family of the class in state d -/
def hT (w : AW) (F : Nat) (ag le ti : Nat → Int32) (d : DS) : Prop := (∀ i, i < 8 → aget w (F + 1) i = ag i ∧ aget w (F + 2) i = d.1 i ∧ aget w (F + 3) i = le i ∧ aget w (F + 4) i = ti i) ∧ fI w F 4 = d.2.1 ∧ fI w F 5 = d.2.2.1 ∧ fI w F 6 = d.2.2.2
/-- the reference in state d -/
def hM (w : AW) (ag le ti : Nat → Int32) (d : DS) : Prop := (∀ i, i < 8 → aget w 65 i = ag i ∧ aget w 66 i = d.1 i ∧ aget w 67 i = le i ∧ aget w 68 i = ti i) ∧ fI w 64 0 = d.2.1 ∧ fI w 64 5 = d.2.2.1 ∧ fI w 64 6 = d.2.2.2
def FT (F : Nat) (w w' : AW) : Prop := (∀ a, ¬ a = F + 2 → aget w' a = aget w a) ∧ ∀ f k, ¬ (F = f ∧ 4 ≤ k) → fI w' f k = fI w f k
theorem ft_rf {F : Nat} {w : AW} : FT F w w := ⟨fun _ _ => rfl, fun _ _ _ => rfl⟩
theorem ft_tr {F : Nat} {a b c : AW} (h : FT F a b) (h' : FT F b c) : FT F a c := ⟨fun x q => (h'.1 x q).trans (h.1 x q), fun f k z => (h'.2 f k z).trans (h.2 f k z)⟩
theorem ft_a {F : Nat} {w : AW} {g : Nat → Int32} : FT F w (aset w (F + 2) g) := ⟨fun x h => ag_n (fun e => h e.symm), fun f k z => fi_a⟩
theorem ft_f {F k : Nat} {w : AW} {v : Value} (h : 4 ≤ k) : FT F w (fset w F k v) := ⟨fun x _ => ag_f, fun f k' z => fi_n (fun e => z ⟨e.1, by omega⟩)⟩
def FM (w w' : AW) : Prop := (∀ a, ¬ a = 66 → aget w' a = aget w a) ∧ ∀ f k, ¬ (64 = f ∧ (k = 0 ∨ k = 5 ∨ k = 6)) → fI w' f k = fI w f k
theorem fm_rf {w : AW} : FM w w := ⟨fun _ _ => rfl, fun _ _ _ => rfl⟩
theorem fm_tr {a b c : AW} (h : FM a b) (h' : FM b c) : FM a c := ⟨fun x q => (h'.1 x q).trans (h.1 x q), fun f k z => (h'.2 f k z).trans (h.2 f k z)⟩
theorem fm_a {w : AW} {g : Nat → Int32} : FM w (aset w 66 g) := ⟨fun x h => ag_n (fun e => h e.symm), fun f k z => fi_a⟩
theorem fm_f {k : Nat} {w : AW} {v : Value} (h : k = 0 ∨ k = 5 ∨ k = 6) : FM w (fset w 64 k v) := ⟨fun x _ => ag_f, fun f k' z => fi_n (fun e => z ⟨e.1, by omega⟩)⟩
def isF (F : Nat) : Prop := F = 6 ∨ F = 14
theorem isF_5 {F : Nat} (h : isF F) : F = 1 ∨ F = 6 ∨ F = 14 ∨ F = 37 ∨ F = 51 := by unfold isF at h; omega
theorem ok_fF {w : AW} {F k : Nat} {x : Int32} (h0 : OK w) (hF : isF F) (hk : k = 4 ∨ k = 5 ∨ k = 6) : OK (fset w F k (.int x)) := by
  rcases hF with rfl | rfl <;> rcases hk with rfl | rfl | rfl <;> exact ok_f h0 (by decide)
theorem hT_4 {w : AW} {F : Nat} {ag le ti : Nat → Int32} {d : DS} {x : Int32} (h0 : OK w) (hF : isF F) (h : hT w F ag le ti d) : hT (fset w F 4 (.int x)) F ag le ti (d.1, x, d.2.2.1, d.2.2.2) := by
  obtain ⟨h1, h2, h3, h4⟩ := h
  refine ⟨fun i hi => ?_, fi_s (fam_k (ok_fam h0 (isF_5 hF)) (by decide)), (fi_n (by omega)).trans h3, (fi_n (by omega)).trans h4⟩
  rw [ag_f, ag_f, ag_f, ag_f]; exact h1 i hi
theorem hT_5 {w : AW} {F : Nat} {ag le ti : Nat → Int32} {d : DS} {x : Int32} (h0 : OK w) (hF : isF F) (h : hT w F ag le ti d) : hT (fset w F 5 (.int x)) F ag le ti (d.1, d.2.1, x, d.2.2.2) := by
  obtain ⟨h1, h2, h3, h4⟩ := h
  refine ⟨fun i hi => ?_, (fi_n (by omega)).trans h2, fi_s (fam_k (ok_fam h0 (isF_5 hF)) (by decide)), (fi_n (by omega)).trans h4⟩
  rw [ag_f, ag_f, ag_f, ag_f]; exact h1 i hi
theorem hT_6 {w : AW} {F : Nat} {ag le ti : Nat → Int32} {d : DS} {x : Int32} (h0 : OK w) (hF : isF F) (h : hT w F ag le ti d) : hT (fset w F 6 (.int x)) F ag le ti (d.1, d.2.1, d.2.2.1, x) := by
  obtain ⟨h1, h2, h3, h4⟩ := h
  refine ⟨fun i hi => ?_, (fi_n (by omega)).trans h2, (fi_n (by omega)).trans h3, fi_s (fam_k (ok_fam h0 (isF_5 hF)) (by decide))⟩
  rw [ag_f, ag_f, ag_f, ag_f]; exact h1 i hi
theorem hT_b {w : AW} {F j : Nat} {ag le ti : Nat → Int32} {d : DS} {x : Int32} (h0 : OK w) (hF : isF F) (h : hT w F ag le ti d) : hT (aset w (F + 2) (upd (aget w (F + 2)) j x)) F ag le ti (upd d.1 j x, d.2.1, d.2.2.1, d.2.2.2) := by
  obtain ⟨h1, h2, h3, h4⟩ := h
  refine ⟨fun i hi => ?_, fi_a.trans h2, fi_a.trans h3, fi_a.trans h4⟩
  obtain ⟨q1, q2, q3, q4⟩ := h1 i hi
  rw [ag_n (by omega), ag_s (fam_a2 (ok_fam h0 (isF_5 hF))), ag_n (by omega), ag_n (by omega)]
  refine ⟨q1, ?_, q3, q4⟩
  show upd (aget w (F + 2)) j x i = upd d.1 j x i
  rw [updI, updI, q2]
theorem hM_0 {w : AW} {ag le ti : Nat → Int32} {d : DS} {x : Int32} (h0 : OK w) (h : hM w ag le ti d) : hM (fset w 64 0 (.int x)) ag le ti (d.1, x, d.2.2.1, d.2.2.2) := by
  obtain ⟨h1, h2, h3, h4⟩ := h
  refine ⟨fun i hi => ?_, fi_s (ok64_0 h0), (fi_n (by decide)).trans h3, (fi_n (by decide)).trans h4⟩
  rw [ag_f, ag_f, ag_f, ag_f]; exact h1 i hi
theorem hM_5 {w : AW} {ag le ti : Nat → Int32} {d : DS} {x : Int32} (h0 : OK w) (h : hM w ag le ti d) : hM (fset w 64 5 (.int x)) ag le ti (d.1, d.2.1, x, d.2.2.2) := by
  obtain ⟨h1, h2, h3, h4⟩ := h
  refine ⟨fun i hi => ?_, (fi_n (by decide)).trans h2, fi_s (ok64_5 h0), (fi_n (by decide)).trans h4⟩
  rw [ag_f, ag_f, ag_f, ag_f]; exact h1 i hi
theorem hM_6 {w : AW} {ag le ti : Nat → Int32} {d : DS} {x : Int32} (h0 : OK w) (h : hM w ag le ti d) : hM (fset w 64 6 (.int x)) ag le ti (d.1, d.2.1, d.2.2.1, x) := by
  obtain ⟨h1, h2, h3, h4⟩ := h
  refine ⟨fun i hi => ?_, (fi_n (by decide)).trans h2, (fi_n (by decide)).trans h3, fi_s (ok64_6 h0)⟩
  rw [ag_f, ag_f, ag_f, ag_f]; exact h1 i hi
theorem hM_b {w : AW} {j : Nat} {ag le ti : Nat → Int32} {d : DS} {x : Int32} (h0 : OK w) (h : hM w ag le ti d) : hM (aset w 66 (upd (aget w 66) j x)) ag le ti (upd d.1 j x, d.2.1, d.2.2.1, d.2.2.2) := by
  obtain ⟨h1, h2, h3, h4⟩ := h
  refine ⟨fun i hi => ?_, fi_a.trans h2, fi_a.trans h3, fi_a.trans h4⟩
  obtain ⟨q1, q2, q3, q4⟩ := h1 i hi
  rw [ag_n (by decide), ag_s (oa66 h0), ag_n (by decide), ag_n (by decide)]
  refine ⟨q1, ?_, q3, q4⟩
  show upd (aget w 66) j x i = upd d.1 j x i
  rw [updI, updI, q2]
