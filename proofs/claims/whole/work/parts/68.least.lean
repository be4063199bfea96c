/-! sentences, the least: the pure side -/
theorem tb_k : ∀ s, s < 1024 → ∀ d, d < 10 → bq (nI s) d = Nat.testBit s d ∧ (nI s >>> (nI d &&& 31)) &&& 1 = nI (if Nat.testBit s d = true then 1 else 0) := by decide +kernel
def bt (s d : Nat) : Nat := if Nat.testBit s d = true then 1 else 0
def pcN (s : Nat) : Nat := bt s 0 + bt s 1 + bt s 2 + bt s 3 + bt s 4 + bt s 5 + bt s 6 + bt s 7 + bt s 8 + bt s 9
theorem pc_k : ∀ s, s < 1024 → bcF (nI s) = nI (pcN s) ∧ pcN s ≤ 10 := by decide +kernel
theorem ex_in : ∀ s, s < 1024 → ∀ d, d < 10 → ((∃ e, e < 10 ∧ e ≠ d ∧ Nat.testBit s e = true) ↔ (if Nat.testBit s d = true then 1 else 0) < pcN s) := by decide +kernel
theorem ex_out : ∀ s, s < 1024 → ∀ d, d < 10 → ((∃ e, e < 10 ∧ e ≠ d ∧ Nat.testBit s e = false) ↔ (if Nat.testBit s d = true then 0 else 1) < 10 - pcN s) := by decide +kernel
/-- a letter k may follow d, and g goes on from there -/
def cfP (g : Nat → Nat → Bool) (s r d k : Nat) : Bool := decide (k ≠ d) && (decide (bt s k ≤ r) && g (r - bt s k) k)
def cfN (g : Nat → Nat → Bool) (s r d : Nat) : Nat → Nat → Bool → Bool
  | 0, _, a => a
  | n + 1, k, a => cfN g s r d n (k + 1) (a || cfP g s r d k)
theorem cfN_iff {g : Nat → Nat → Bool} {s r d : Nat} : ∀ (n k : Nat) (a : Bool), cfN g s r d n k a = true ↔ (a = true ∨ ∃ e, k ≤ e ∧ e < k + n ∧ cfP g s r d e = true) := by
  intro n
  induction n with
  | zero =>
    intro k a
    rw [cfN]
    exact ⟨Or.inl, fun q => q.elim id (fun ⟨e, h1, h2, _⟩ => by omega)⟩
  | succ n ih =>
    intro k a
    rw [cfN, ih, Bool.or_eq_true]
    refine ⟨fun q => ?_, fun q => ?_⟩
    · rcases q with (q | q) | ⟨e, h1, h2, h3⟩
      · exact Or.inl q
      · exact Or.inr ⟨k, Nat.le_refl k, by omega, q⟩
      · exact Or.inr ⟨e, by omega, by omega, h3⟩
    · rcases q with q | ⟨e, h1, h2, h3⟩
      · exact Or.inl (Or.inl q)
      · by_cases z : e = k
        · exact Or.inl (Or.inr (z ▸ h3))
        · exact Or.inr ⟨e, by omega, by omega, h3⟩
/-- m letters more behind d, r of the set -/
def canN (s : Nat) : Nat → Nat → Nat → Bool
  | 0, r, _ => decide (r = 0)
  | m + 1, r, d => cfN (canN s m) s r d 10 0 false
/-- the same as bits -/
def oIO (i : Nat) : Nat → Nat × Nat
  | 0 => (1, 1)
  | m + 1 => ((if 1 < i then (oIO i m).1 <<< 1 else 0) ||| (if 0 < 10 - i then (oIO i m).2 else 0), (if 0 < i then (oIO i m).1 <<< 1 else 0) ||| (if 1 < 10 - i then (oIO i m).2 else 0))
def opn (s i m d : Nat) : Nat := if Nat.testBit s d = true then (oIO i m).1 else (oIO i m).2
theorem tb_if {c : Prop} [Decidable c] {x r : Nat} : Nat.testBit (if c then x else 0) r = (decide c && Nat.testBit x r) := by
  by_cases h : c
  · simp [h]
  · simp [h]
theorem can_o {s : Nat} (hs : s < 1024) : ∀ (m r d : Nat), d < 10 → canN s m r d = Nat.testBit (opn s (pcN s) m d) r := by
  intro m
  induction m with
  | zero =>
    intro r d hd
    have : opn s (pcN s) 0 d = 1 := by
      unfold opn oIO
      by_cases h : Nat.testBit s d = true
      · rw [if_pos h]
      · rw [if_neg h]
    rw [this, canN]
    cases r with
    | zero => rfl
    | succ r => simp [Nat.testBit_succ]
  | succ m ih =>
    intro r d hd
    have hP : ∀ e, e < 10 → (cfP (canN s m) s r d e = true ↔ (e ≠ d ∧ (Nat.testBit s e = true ∧ Nat.testBit ((oIO (pcN s) m).1 <<< 1) r = true ∨ Nat.testBit s e = false ∧ Nat.testBit (oIO (pcN s) m).2 r = true))) := by
      intro e he
      unfold cfP
      rw [ih _ e he, Bool.and_eq_true, Bool.and_eq_true, decide_eq_true_iff, decide_eq_true_iff, Nat.testBit_shiftLeft, Bool.and_eq_true, decide_eq_true_iff]
      unfold opn bt
      cases hb : Nat.testBit s e with
      | true => simp
      | false => simp
    have e1 := ex_in s hs d hd
    have e2 := ex_out s hs d hd
    rw [canN, Bool.eq_iff_iff, cfN_iff]
    have hL : (false = true ∨ ∃ e, 0 ≤ e ∧ e < 0 + 10 ∧ cfP (canN s m) s r d e = true) ↔ ((if Nat.testBit s d = true then 1 else 0) < pcN s ∧ Nat.testBit ((oIO (pcN s) m).1 <<< 1) r = true ∨ (if Nat.testBit s d = true then 0 else 1) < 10 - pcN s ∧ Nat.testBit (oIO (pcN s) m).2 r = true) := by
      rw [← e1, ← e2]
      refine ⟨fun q => ?_, fun q => ?_⟩
      · rcases q with q | ⟨e, -, h2, h3⟩
        · cases q
        · obtain ⟨n1, n2⟩ := (hP e (by omega)).mp h3
          rcases n2 with ⟨n2, n3⟩ | ⟨n2, n3⟩
          · exact Or.inl ⟨⟨e, by omega, n1, n2⟩, n3⟩
          · exact Or.inr ⟨⟨e, by omega, n1, n2⟩, n3⟩
      · refine Or.inr ?_
        rcases q with ⟨⟨e, h1, h2, h3⟩, h4⟩ | ⟨⟨e, h1, h2, h3⟩, h4⟩
        · exact ⟨e, Nat.zero_le e, by omega, (hP e h1).mpr ⟨h2, Or.inl ⟨h3, h4⟩⟩⟩
        · exact ⟨e, Nat.zero_le e, by omega, (hP e h1).mpr ⟨h2, Or.inr ⟨h3, h4⟩⟩⟩
    rw [hL]
    unfold opn
    rw [oIO]
    cases hb : Nat.testBit s d with
    | true => simp only [if_true, Nat.testBit_or, tb_if, Bool.or_eq_true, Bool.and_eq_true, decide_eq_true_iff]
    | false => simp only [Bool.false_eq_true, if_false, Nat.testBit_or, tb_if, Bool.or_eq_true, Bool.and_eq_true, decide_eq_true_iff]
theorem oIO_k : ∀ i, i < 11 → ∀ m, m < 10 → (oIO i m).1 < 1024 ∧ (oIO i m).2 < 1024 ∧ (nI (oIO i m).1 <<< ((1 : Int32) &&& 31)) = nI ((oIO i m).1 <<< 1) := by decide +kernel
theorem oIO_1 : ∀ i, i < 11 → ∀ m, m < 9 → ((if nI i ≤ 1 then (0 : Int32) else nI ((oIO i m).1 <<< 1)) ||| (if nI (10 - i) ≤ 0 then 0 else nI (oIO i m).2)) = nI (oIO i (m + 1)).1 ∧ ((if nI i ≤ 0 then (0 : Int32) else nI ((oIO i m).1 <<< 1)) ||| (if nI (10 - i) ≤ 1 then 0 else nI (oIO i m).2)) = nI (oIO i (m + 1)).2 := by decide +kernel
/-- letter d may come: behind last, m left behind it, due of the set left -/
def lsP (s m : Nat) (last : Int32) (due d : Nat) : Bool := !decide (nI d = last) && (decide (bt s d ≤ due) && canN s m (due - bt s d) d)
def lsN (s : Nat) : Nat → Int32 → Int32 → Nat → Int32
  | 0, dg, _, _ => dg
  | c + 1, dg, last, due => if upP (lsP s c last due) 10 0 = -6 then -6 else lsN s c (10 * dg + upP (lsP s c last due) 10 0) (upP (lsP s c last due) 10 0) (due - bt s (upP (lsP s c last due) 10 0).toNatClampNeg)
theorem upP_r {P : Nat → Bool} : ∀ n k, upP P n k = -6 ∨ ∃ d, k ≤ d ∧ d < k + n ∧ upP P n k = nI d ∧ P d = true := by
  intro n
  induction n with
  | zero => intro k; exact Or.inl rfl
  | succ n ih =>
    intro k
    rw [upP]
    by_cases e : P k = true
    · rw [if_pos e]; exact Or.inr ⟨k, Nat.le_refl k, by omega, rfl, e⟩
    · rw [if_neg e]
      rcases ih (k + 1) with q | ⟨d, h1, h2, h3⟩
      · exact Or.inl q
      · exact Or.inr ⟨d, by omega, by omega, h3⟩
theorem nI_n6 {d : Nat} (h : d < 1000) : ¬ nI d = -6 := fun q => by
  have h1 := nI_toInt (n := d) (by omega)
  rw [q, show (-6 : Int32).toInt = -6 from rfl] at h1
  omega
theorem upP_cN {P Q : Nat → Bool} {N : Nat} (h : ∀ k, k < N → P k = Q k) : ∀ n k, k + n = N → upP P n k = upP Q n k := by
  intro n
  induction n with
  | zero => intro k _; rfl
  | succ n ih => intro k hk; rw [upP, upP, h k (by omega), ih (k + 1) (by omega)]
