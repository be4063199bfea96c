/-! what a text without a fault is made of -/
def nmP (x : Int32) : Prop := 65 ≤ x ∧ x ≤ 72
def ltP (x : Int32) : Prop := 97 ≤ x ∧ x ≤ 106
theorem nm_33 {x : Int32} (h : nmP x) : ¬ x = 33 := fun q => by subst q; exact absurd h.1 (by decide)
theorem lt_34 {x : Int32} (h : ltP x) : ¬ x = 34 := fun q => by subst q; exact absurd h.1 (by decide)
/-- the place of act k -/
def plc (g : Nat → Int32) (c : Nat) : Nat → Nat
  | 0 => 0
  | k + 1 => plc g c k + lenN g c (plc g c k)
/-- an act that is whole stands at p -/
def wfA (g : Nat → Int32) (c p : Nat) : Prop := p < c ∧ (g p = 33 ∨ nmP (g p) ∧ p + 1 < c ∧ (g (p + 1) = 61 ∨ g (p + 1) = 43 ∨ g (p + 1) = 62 ∧ p + 2 < c ∧ nmP (g (p + 2)) ∨ g (p + 1) = 34 ∧ ∃ n, 1 ≤ n ∧ p + 2 + n < c ∧ (∀ t, t < n → ltP (g (p + 2 + t))) ∧ g (p + 2 + n) = 34))
theorem lc_is {g : Nat → Int32} {c : Nat} : ∀ (n f q : Nat), n < f → q + n < c → (∀ t, t < n → ltP (g (q + t))) → ¬ ltP (g (q + n)) → lcN g c f q = n := by
  intro n
  induction n with
  | zero =>
    intro f q hf hq h1 h2
    obtain ⟨f, rfl⟩ : ∃ y, f = y + 1 := ⟨f - 1, by omega⟩
    have h2' : ¬ (97 ≤ g q ∧ g q ≤ 106) := h2
    rw [lcN, sg_in (by omega), if_neg h2']
  | succ n ih =>
    intro f q hf hq h1 h2
    obtain ⟨f, rfl⟩ : ∃ y, f = y + 1 := ⟨f - 1, by omega⟩
    have h3 : 97 ≤ g q ∧ g q ≤ 106 := h1 0 (by omega)
    rw [lcN, sg_in (by omega), if_pos h3, ih f (q + 1) (by omega) (by omega) (fun t ht => by rw [show q + 1 + t = q + (t + 1) by omega]; exact h1 (t + 1) (by omega)) (by rw [show q + 1 + n = q + (n + 1) by omega]; exact h2)]
theorem len_1 {g : Nat → Int32} {c p : Nat} (hp : p < c) (h : g p = 33) : lenN g c p = 1 := by
  unfold lenN
  rw [sg_in hp, if_pos h]
theorem len_2 {g : Nat → Int32} {c p : Nat} (hp : p + 1 < c) (h : nmP (g p)) (h1 : g (p + 1) = 61 ∨ g (p + 1) = 43) : lenN g c p = 2 := by
  unfold lenN
  rw [sg_in (by omega), if_neg (nm_33 h), sg_in hp]
  rcases h1 with h1 | h1 <;> rw [h1, if_neg (by decide), if_neg (by decide)]
theorem len_3 {g : Nat → Int32} {c p : Nat} (hp : p + 1 < c) (h : nmP (g p)) (h1 : g (p + 1) = 62) : lenN g c p = 3 := by
  unfold lenN
  rw [sg_in (by omega), if_neg (nm_33 h), sg_in hp, h1, if_neg (by decide), if_pos rfl]
theorem len_4 {g : Nat → Int32} {c p n : Nat} (hc : c ≤ 60) (hp : p + 2 + n < c) (h : nmP (g p)) (h1 : g (p + 1) = 34) (h2 : ∀ t, t < n → ltP (g (p + 2 + t))) (h3 : g (p + 2 + n) = 34) : lenN g c p = 3 + n ∧ lcN g c 60 (p + 2) = n := by
  have e := lc_is (g := g) (c := c) n 60 (p + 2) (by omega) (by omega) h2 (fun q => lt_34 q h3)
  refine ⟨?_, e⟩
  unfold lenN
  rw [sg_in (by omega), if_neg (nm_33 h), sg_in (by omega), h1, if_pos rfl, e]
theorem len_pos {g : Nat → Int32} {c p : Nat} : 1 ≤ lenN g c p := by
  unfold lenN
  split
  · exact Nat.le_refl 1
  · split
    · omega
    · split <;> omega
theorem plc_ge {g : Nat → Int32} {c : Nat} : ∀ k, k ≤ plc g c k := by
  intro k
  induction k with
  | zero => exact Nat.le_refl 0
  | succ k ih =>
    rw [plc]
    have := len_pos (g := g) (c := c) (p := plc g c k)
    omega
theorem plc_lt {g : Nat → Int32} {c a : Nat} : ∀ d, plc g c a + d ≤ plc g c (a + d) := by
  intro d
  induction d with
  | zero => exact Nat.le_refl _
  | succ d ih =>
    show plc g c a + (d + 1) ≤ plc g c (a + d) + lenN g c (plc g c (a + d))
    have := len_pos (g := g) (c := c) (p := plc g c (a + d))
    omega
theorem plc_inj {g : Nat → Int32} {c a b : Nat} (h : plc g c a = plc g c b) : a = b := by
  rcases Nat.lt_trichotomy a b with q | q | q
  · have := plc_lt (g := g) (c := c) (a := a) (b - a)
    rw [show a + (b - a) = b by omega] at this
    omega
  · exact q
  · have := plc_lt (g := g) (c := c) (a := b) (a - b)
    rw [show b + (a - b) = a by omega] at this
    omega
/-- where the reading stands at place i: a acts are whole, d is due -/
def stA (g : Nat → Int32) (c a i : Nat) : Nat → Prop
  | 0 => i = plc g c a
  | 1 => i = plc g c a + 1 ∧ nmP (g (plc g c a))
  | 2 => i = plc g c a + 2 ∧ nmP (g (plc g c a)) ∧ g (plc g c a + 1) = 62
  | 3 => i = plc g c a + 2 ∧ nmP (g (plc g c a)) ∧ g (plc g c a + 1) = 34
  | 4 => nmP (g (plc g c a)) ∧ g (plc g c a + 1) = 34 ∧ ∃ n, 1 ≤ n ∧ i = plc g c a + 2 + n ∧ ∀ t, t < n → ltP (g (plc g c a + 2 + t))
  | _ + 5 => False
def nxA (a d : Nat) : Nat := if d = 0 then a + 1 else a
theorem stA_step {g : Nat → Int32} {c a i d : Nat} (hc : c ≤ 60) (hi : i < c) (sa : stA g c a i d) (h5 : ¬ dueN d (g i) = 5) : stA g c (nxA a (dueN d (g i))) (i + 1) (dueN d (g i)) ∧ (dueN d (g i) = 0 → wfA g c (plc g c a)) := by
  match d, sa with
  | 0, sa =>
    have sa : i = plc g c a := sa
    rw [dueN] at h5 ⊢
    by_cases e1 : g i = 33
    · rw [if_pos e1]
      refine ⟨?_, fun _ => ⟨by omega, Or.inl (sa ▸ e1)⟩⟩
      show i + 1 = plc g c (a + 1)
      rw [plc, ← sa, len_1 hi e1]
    · rw [if_neg e1] at h5 ⊢
      by_cases e2 : 65 ≤ g i ∧ g i ≤ 72
      · rw [if_pos e2]
        refine ⟨?_, fun q => absurd q (by decide)⟩
        show i + 1 = plc g c a + 1 ∧ nmP (g (plc g c a))
        exact ⟨by omega, sa ▸ e2⟩
      · rw [if_neg e2] at h5; exact absurd rfl h5
  | 1, sa =>
    obtain ⟨s1, s2⟩ : i = plc g c a + 1 ∧ nmP (g (plc g c a)) := sa
    rw [dueN] at h5 ⊢
    by_cases e1 : g i = 62
    · rw [if_pos e1]
      refine ⟨?_, fun q => absurd q (by decide)⟩
      show i + 1 = plc g c a + 2 ∧ nmP (g (plc g c a)) ∧ g (plc g c a + 1) = 62
      exact ⟨by omega, s2, s1 ▸ e1⟩
    · rw [if_neg e1] at h5 ⊢
      by_cases e2 : g i = 34
      · rw [if_pos e2]
        refine ⟨?_, fun q => absurd q (by decide)⟩
        show i + 1 = plc g c a + 2 ∧ nmP (g (plc g c a)) ∧ g (plc g c a + 1) = 34
        exact ⟨by omega, s2, s1 ▸ e2⟩
      · rw [if_neg e2] at h5 ⊢
        by_cases e3 : g i = 61
        · rw [if_pos e3]
          have e3' : g (plc g c a + 1) = 61 := s1 ▸ e3
          refine ⟨?_, fun _ => ⟨by omega, Or.inr ⟨s2, by omega, Or.inl e3'⟩⟩⟩
          show i + 1 = plc g c (a + 1)
          rw [plc, len_2 (by omega) s2 (Or.inl e3')]
          omega
        · rw [if_neg e3] at h5 ⊢
          by_cases e4 : g i = 43
          · rw [if_pos e4]
            have e4' : g (plc g c a + 1) = 43 := s1 ▸ e4
            refine ⟨?_, fun _ => ⟨by omega, Or.inr ⟨s2, by omega, Or.inr (Or.inl e4')⟩⟩⟩
            show i + 1 = plc g c (a + 1)
            rw [plc, len_2 (by omega) s2 (Or.inr e4')]
            omega
          · rw [if_neg e4] at h5; exact absurd rfl h5
  | 2, sa =>
    obtain ⟨s1, s2, s3⟩ : i = plc g c a + 2 ∧ nmP (g (plc g c a)) ∧ g (plc g c a + 1) = 62 := sa
    rw [dueN] at h5 ⊢
    by_cases e1 : 65 ≤ g i ∧ g i ≤ 72
    · rw [if_pos e1]
      refine ⟨?_, fun _ => ⟨by omega, Or.inr ⟨s2, by omega, Or.inr (Or.inr (Or.inl ⟨s3, by omega, s1 ▸ e1⟩))⟩⟩⟩
      show i + 1 = plc g c (a + 1)
      rw [plc, len_3 (by omega) s2 s3]
      omega
    · rw [if_neg e1] at h5; exact absurd rfl h5
  | 3, sa =>
    obtain ⟨s1, s2, s3⟩ : i = plc g c a + 2 ∧ nmP (g (plc g c a)) ∧ g (plc g c a + 1) = 34 := sa
    rw [dueN] at h5 ⊢
    by_cases e1 : 97 ≤ g i ∧ g i ≤ 106
    · rw [if_pos e1]
      refine ⟨?_, fun q => absurd q (by decide)⟩
      show nmP (g (plc g c a)) ∧ g (plc g c a + 1) = 34 ∧ ∃ n, 1 ≤ n ∧ i + 1 = plc g c a + 2 + n ∧ ∀ t, t < n → ltP (g (plc g c a + 2 + t))
      refine ⟨s2, s3, 1, Nat.le_refl 1, by omega, fun t ht => ?_⟩
      rw [show t = 0 by omega, Nat.add_zero, ← s1]
      exact e1
    · rw [if_neg e1] at h5; exact absurd rfl h5
  | 4, sa =>
    obtain ⟨s2, s3, n, n1, n2, n3⟩ : nmP (g (plc g c a)) ∧ g (plc g c a + 1) = 34 ∧ ∃ n, 1 ≤ n ∧ i = plc g c a + 2 + n ∧ ∀ t, t < n → ltP (g (plc g c a + 2 + t)) := sa
    rw [dueN] at h5 ⊢
    by_cases e1 : 97 ≤ g i ∧ g i ≤ 106
    · rw [if_pos e1]
      refine ⟨?_, fun q => absurd q (by decide)⟩
      show nmP (g (plc g c a)) ∧ g (plc g c a + 1) = 34 ∧ ∃ n, 1 ≤ n ∧ i + 1 = plc g c a + 2 + n ∧ ∀ t, t < n → ltP (g (plc g c a + 2 + t))
      refine ⟨s2, s3, n + 1, by omega, by omega, fun t ht => ?_⟩
      by_cases q : t = n
      · rw [q, ← n2]; exact e1
      · exact n3 t (by omega)
    · rw [if_neg e1] at h5 ⊢
      by_cases e2 : g i = 34
      · rw [if_pos e2]
        have e2' : g (plc g c a + 2 + n) = 34 := n2 ▸ e2
        refine ⟨?_, fun _ => ⟨by omega, Or.inr ⟨s2, by omega, Or.inr (Or.inr (Or.inr ⟨s3, n, n1, by omega, n3, e2'⟩))⟩⟩⟩
        show i + 1 = plc g c (a + 1)
        rw [plc, (len_4 hc (by omega) s2 s3 n3 e2').1]
        omega
      · rw [if_neg e2] at h5; exact absurd rfl h5
  | d + 5, sa => exact absurd sa id
/-- the text reads through: its acts -/
theorem fp_ok {g : Nat → Int32} {c : Nat} (hc : c ≤ 60) : ∀ (n i a d : Nat), i + n = c → stA g c a i d → (∀ k, k < a → wfA g c (plc g c k)) → fpN g c n i d = -6 → ∃ b, plc g c b = c ∧ ∀ k, k < b → wfA g c (plc g c k) := by
  intro n
  induction n with
  | zero =>
    intro i a d hi sa hw hf
    have hi : i = c := hi
    subst hi
    rw [fpN] at hf
    by_cases e : d = 0
    · subst e
      have sa : i = plc g i a := sa
      exact ⟨a, sa.symm, hw⟩
    · rw [if_neg e] at hf
      exact absurd hf (nI_n6 (by omega))
  | succ n ih =>
    intro i a d hi sa hw hf
    rw [fpN] at hf
    by_cases e : dueN d (g i) = 5
    · rw [if_pos e] at hf
      exact absurd hf (nI_n6 (by omega))
    · rw [if_neg e] at hf
      obtain ⟨q1, q2⟩ := stA_step hc (show i < c by omega) sa e
      refine ih (i + 1) _ _ (by omega) q1 (fun k hk => ?_) hf
      unfold nxA at hk
      by_cases z : dueN d (g i) = 0
      · rw [if_pos z] at hk
        by_cases y : k = a
        · rw [y]; exact q2 z
        · exact hw k (by omega)
      · rw [if_neg z] at hk
        exact hw k hk
