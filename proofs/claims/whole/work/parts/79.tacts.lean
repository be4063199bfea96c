/-! the class's acts on a family of its own -/
theorem why_0 {ag ti : Nat → Int32} {d : DS} {j t : Nat} : whyA ag ti d 0 j t = whyLend d.2.1 d.2.2.1 ti j t := rfl
theorem why_1 {ag ti : Nat → Int32} {d : DS} {j t : Nat} : whyA ag ti d 1 j t = if bq d.2.1 j = true then 0 else 1 := rfl
theorem why_2 {ag ti : Nat → Int32} {d : DS} {j t : Nat} : whyA ag ti d 2 j t = if bq d.2.1 j = true then (if d.1 j < 99 then 0 else 4) else 1 := rfl
theorem why_3 {ag ti : Nat → Int32} {d : DS} {j t : Nat} : whyA ag ti d 3 j t = if bq d.2.1 j = true then 0 else 1 := rfl
theorem why_4 {ag ti : Nat → Int32} {d : DS} {j t : Nat} : whyA ag ti d 4 j t = if oldA ag d.2.1 = -6 ∨ oldA ag d.2.1 = d.2.2.1 then 5 else 0 := rfl
theorem do_0 {ag ti : Nat → Int32} {d : DS} {j t : Nat} : doA ag ti d 0 j t = (d.1, d.2.1, nI t, d.2.2.2) := rfl
theorem do_2 {ag ti : Nat → Int32} {d : DS} {j t : Nat} : doA ag ti d 2 j t = (upd d.1 j (rst (d.1 j)), d.2.1, d.2.2.1, d.2.2.2) := rfl
theorem do_3 {ag ti : Nat → Int32} {d : DS} {j t : Nat} : doA ag ti d 3 j t = (d.1, dieL d.2.1 j, (if d.2.2.1 = nI j then heirA ag ti (dieL d.2.1 j) j else d.2.2.1), d.2.2.2) := rfl
theorem do_4 {ag ti : Nat → Int32} {d : DS} {j t : Nat} : doA ag ti d 4 j t = (d.1, d.2.1, oldA ag d.2.1, d.2.2.2) := rfl
def dA (ag ti : Nat → Int32) (d : DS) (k j t : Nat) : DS := if whyA ag ti d k j t = 0 then doA ag ti d k j t else d
theorem whyLend_c {l o : Int32} {ti ti' : Nat → Int32} {j t : Nat} (h : ti j = ti' j) : whyLend l o ti j t = whyLend l o ti' j t := by
  unfold whyLend
  rw [h]
theorem t_lend {X : Scr} {w : AW} {F j t : Nat} {ag le ti : Nat → Int32} {d : DS} (h0 : OK w) (hF : isF F) (h : hT w F ag le ti d) (hj : j < 8) (ht : t < 8) : ∃ w', Z X 37 0 [.ref F, .int (nI j), .int (nI t)] [] w = some (some (.int (whyA ag ti d 0 j t)), w') ∧ OK w' ∧ hT w' F ag le ti (dA ag ti d 0 j t) ∧ FT F w w' := by
  have hx := x_lend (X := X) (ok_fam h0 (isF_5 hF)) hj ht
  have e : whyLend (fI w F 4) (fI w F 5) (aget w (F + 4)) j t = whyLend d.2.1 d.2.2.1 ti j t := by rw [h.2.1, h.2.2.1, whyLend_c (h.1 j hj).2.2.2]
  rw [e] at hx
  unfold dA
  rw [why_0, do_0]
  by_cases c : whyLend d.2.1 d.2.2.1 ti j t = 0
  · rw [if_pos c] at hx ⊢
    exact ⟨_, hx, ok_fF h0 hF (by decide), hT_5 h0 hF h, ft_f (by decide)⟩
  · rw [if_neg c] at hx ⊢
    exact ⟨_, hx, h0, h, ft_rf⟩
theorem t_rest {X : Scr} {w : AW} {F j t : Nat} {ag le ti : Nat → Int32} {d : DS} (h0 : OK w) (hF : isF F) (h : hT w F ag le ti d) (hj : j < 8) : ∃ w', Z X 38 0 [.ref F, .int (nI j)] [] w = some (some (.int (whyA ag ti d 2 j t)), w') ∧ OK w' ∧ hT w' F ag le ti (dA ag ti d 2 j t) ∧ FT F w w' := by
  have hx := x_rest (X := X) (ok_fam h0 (isF_5 hF)) hj
  rw [h.2.1, (h.1 j hj).2.1] at hx
  unfold dA
  rw [why_2, do_2]
  by_cases c1 : bq d.2.1 j = true
  · by_cases c2 : d.1 j < 99
    · rw [if_pos c1, if_pos c2, if_pos ⟨c1, c2⟩] at hx
      rw [if_pos c1, if_pos c2, if_pos rfl]
      exact ⟨_, hx, ok_a h0, hT_b h0 hF h, ft_a⟩
    · rw [if_pos c1, if_neg c2, if_neg (fun q => c2 q.2)] at hx
      rw [if_pos c1, if_neg c2, if_neg (by decide)]
      exact ⟨_, hx, h0, h, ft_rf⟩
  · rw [if_neg c1, if_neg (fun q => c1 q.1)] at hx
    rw [if_neg c1, if_neg (by decide)]
    exact ⟨_, hx, h0, h, ft_rf⟩
theorem heir_c {ag ag' ti ti' : Nat → Int32} {l : Int32} {j : Nat} (h1 : ∀ i, i < 8 → ag' i = ag i) (h2 : ti' j = ti j) : heirOf ag' ti' l j = heirA ag ti l j := by
  unfold heirOf heirA oldA
  rw [oldC_c h1 8 (Nat.le_refl 8), oldC_c h1 8 (Nat.le_refl 8), h2]
theorem t_die {X : Scr} {w : AW} {F j t : Nat} {ag le ti : Nat → Int32} {d : DS} (h0 : OK w) (hF : isF F) (h : hT w F ag le ti d) (hj : j < 8) : ∃ w', Z X 39 0 [.ref F, .int (nI j), uns] [] w = some (some (.int (whyA ag ti d 3 j t)), w') ∧ OK w' ∧ hT w' F ag le ti (dA ag ti d 3 j t) ∧ FT F w w' := by
  have hx := x_die (X := X) (ok_fam h0 (isF_5 hF)) hj
  rw [h.2.1, h.2.2.1, heir_c (ti := ti) (fun i hi => (h.1 i hi).1) (h.1 j hj).2.2.2] at hx
  unfold dA
  rw [why_3, do_3]
  by_cases c1 : bq d.2.1 j = true
  · rw [if_pos c1, if_pos c1] at hx
    rw [if_pos c1, if_pos rfl]
    by_cases c2 : d.2.2.1 = nI j
    · rw [if_pos c2] at hx ⊢
      exact ⟨_, hx, ok_fF (ok_fF h0 hF (by decide)) hF (by decide), hT_5 (ok_fF h0 hF (by decide)) hF (hT_4 h0 hF h), ft_tr (ft_f (by decide)) (ft_f (by decide))⟩
    · rw [if_neg c2] at hx ⊢
      exact ⟨_, hx, ok_fF h0 hF (by decide), hT_4 h0 hF h, ft_f (by decide)⟩
  · rw [if_neg c1, if_neg c1] at hx
    rw [if_neg c1, if_neg (by decide)]
    exact ⟨_, hx, h0, h, ft_rf⟩
theorem t_fall {X : Scr} {w : AW} {F j t : Nat} {ag le ti : Nat → Int32} {d : DS} (h0 : OK w) (hF : isF F) (h : hT w F ag le ti d) : ∃ w', Z X 34 0 [.ref F, uns] [] w = some (some (.int (whyA ag ti d 4 j t)), w') ∧ OK w' ∧ hT w' F ag le ti (dA ag ti d 4 j t) ∧ FT F w w' := by
  have hx := x_fall (X := X) (ok_fam h0 (isF_5 hF))
  have e : oldC (aget w (F + 1)) (fI w F 4) 8 (-6) (-1) = oldA ag d.2.1 := by
    unfold oldA
    rw [h.2.1, oldC_c (fun i hi => (h.1 i hi).1) 8 (Nat.le_refl 8)]
  rw [e, h.2.2.1] at hx
  unfold dA
  rw [why_4, do_4]
  by_cases c : oldA ag d.2.1 = -6 ∨ oldA ag d.2.1 = d.2.2.1
  · rw [if_pos c, if_pos c] at hx
    rw [if_pos c, if_neg (by decide)]
    exact ⟨_, hx, h0, h, ft_rf⟩
  · rw [if_neg c, if_neg c] at hx
    rw [if_neg c, if_pos rfl]
    exact ⟨_, hx, ok_fF h0 hF (by decide), hT_5 h0 hF h, ft_f (by decide)⟩
theorem t_speak {X : Scr} {w : AW} {F j t : Nat} {ag le ti : Nat → Int32} {d : DS} (h0 : OK w) (hF : isF F) (h : hT w F ag le ti d) (hj : j < 8) (ht : t < 10) : ∃ w', Z X 42 0 [.ref F, .int (nI j), .int (nI t)] [] w = some (some (.int (if bq d.2.1 j = true then 0 else 1)), w') ∧ OK w' ∧ hT w' F ag le ti (if bq d.2.1 j = true then sayA le d j t else d) ∧ FT F w w' := by
  have hx := x_speak (X := X) (ok_fam h0 (isF_5 hF)) hj ht
  obtain ⟨q1, q2, q3, q4⟩ := h.1 j hj
  rw [h.2.1, h.2.2.1, q2, q3, h.2.2.2] at hx
  unfold sayA
  by_cases c1 : bq d.2.1 j = true
  · rw [if_pos c1] at hx ⊢
    rw [if_pos c1]
    by_cases c2 : d.2.2.1 = nI j ∧ bq (le j) t = true
    · rw [if_pos ⟨c1, c2.1, c2.2⟩] at hx
      rw [if_pos c2]
      have ok6 : OK (fset w F 6 (.int (d.2.2.2 + d.1 j))) := ok_fF h0 hF (by decide)
      have hb := hT_b (j := j) (x := bal (d.1 j)) ok6 hF (hT_6 (x := d.2.2.2 + d.1 j) h0 hF h)
      rw [ag_f] at hb
      exact ⟨_, hx, ok_a ok6, hb, ft_tr (ft_f (by decide)) ft_a⟩
    · rw [if_neg (fun q => c2 ⟨q.2.1, q.2.2⟩)] at hx
      rw [if_neg c2]
      exact ⟨_, hx, h0, h, ft_rf⟩
  · rw [if_neg c1, if_neg (fun q => c1 q.1)] at hx
    rw [if_neg c1, if_neg c1]
    exact ⟨_, hx, h0, h, ft_rf⟩
def PD (g : Nat → Int32) (c : Nat) (w : AW) : Prop := aget w 12 = g ∧ fI w 11 1 = nI c
theorem pd_ft {g : Nat → Int32} {c : Nat} {w w' : AW} (h : PD g c w) (f : FT 14 w w') : PD g c w' := ⟨(f.1 12 (by decide)).trans h.1, (f.2 11 1 (by decide)).trans h.2⟩
theorem nm_n {x : Int32} (h : nmP x) : x - 65 = nI (x - 65).toNatClampNeg ∧ (x - 65).toNatClampNeg < 8 := by
  obtain ⟨m, hm, rfl⟩ := nat_of (n := 72) (N := 72) rfl (a := x) ⟨by
    have := Int32.le_iff_toInt_le.mp h.1
    rw [show (65 : Int32).toInt = 65 from rfl] at this
    exact Int32.le_iff_toInt_le.mpr (by rw [show (0 : Int32).toInt = 0 from rfl]; omega), h.2⟩
  have h1 : 65 ≤ m := by
    have := Int32.le_iff_toInt_le.mp h.1
    rw [show (65 : Int32).toInt = 65 from rfl, nI_toInt (by omega)] at this
    omega
  rw [show (65 : Int32) = nI 65 from rfl, pk_sub h1, nI_clamp (by omega)]
  exact ⟨rfl, by omega⟩
theorem lt_n {x : Int32} (h : ltP x) : x - 97 = nI (x - 97).toNatClampNeg ∧ (x - 97).toNatClampNeg < 10 := by
  obtain ⟨m, hm, rfl⟩ := nat_of (n := 106) (N := 106) rfl (a := x) ⟨by
    have := Int32.le_iff_toInt_le.mp h.1
    rw [show (97 : Int32).toInt = 97 from rfl] at this
    exact Int32.le_iff_toInt_le.mpr (by rw [show (0 : Int32).toInt = 0 from rfl]; omega), h.2⟩
  have h1 : 97 ≤ m := by
    have := Int32.le_iff_toInt_le.mp h.1
    rw [show (97 : Int32).toInt = 97 from rfl, nI_toInt (by omega)] at this
    omega
  rw [show (97 : Int32) = nI 97 from rfl, pk_sub h1, nI_clamp (by omega)]
  exact ⟨rfl, by omega⟩
def aK (g : Nat → Int32) (p : Nat) : Nat := if g p = 33 then 4 else if g (p + 1) = 62 then 0 else if g (p + 1) = 61 then 2 else if g (p + 1) = 43 then 3 else 1
def aJ (g : Nat → Int32) (p : Nat) : Nat := (g p - 65).toNatClampNeg
def aT (g : Nat → Int32) (p : Nat) : Nat := (g (p + 2) - 65).toNatClampNeg
def aL (g : Nat → Int32) (p t : Nat) : Nat := (g (p + 2 + t) - 97).toNatClampNeg
def whyP (g ag ti : Nat → Int32) (d : DS) (p : Nat) : Int32 := whyA ag ti d (aK g p) (aJ g p) (aT g p)
def goP (g : Nat → Int32) (c : Nat) (ag le ti : Nat → Int32) (d : DS) (p : Nat) : DS := if aK g p = 1 then sayN le (aL g p) (aJ g p) (lcN g c 60 (p + 2)) 0 d else doA ag ti d (aK g p) (aJ g p) (aT g p)
theorem say_lv {le : Nat → Int32} {d : DS} {j t : Nat} : (sayA le d j t).2.1 = d.2.1 := by
  unfold sayA
  by_cases c : d.2.2.1 = nI j ∧ bq (le j) t = true
  · rw [if_pos c]
  · rw [if_neg c]
theorem x_spL {X : Scr} {g ag le ti : Nat → Int32} {c p j N : Nat} (hc : c ≤ 60) (hp : p + 2 + N < c) (hj : j < 8) (hl : ∀ t, t < N → ltP (g (p + 2 + t))) : ∀ (n i : Nat), i + n = N → ∀ (w : AW) (d : DS) (r : Int32), OK w → PD g c w → hT w 14 ag le ti d → ∃ w', Z X 40 13 [.ref 13, .ref 11, .int (nI (p + 2)), .int (nI j), .int r, .int (nI N), .int (nI i)] [] w = some (some (.int (if n = 0 then r else if bq d.2.1 j = true then 0 else 1)), w') ∧ OK w' ∧ hT w' 14 ag le ti (if bq d.2.1 j = true then sayN le (aL g p) j n i d else d) ∧ FT 14 w w' := by
  intro n
  induction n with
  | zero =>
    intro i hi w d r h0 pd h
    have hi : i = N := hi
    subst hi
    refine ⟨w, ?_, h0, ?_, ft_rf⟩
    · rw [z40_13]
      simp only [z40_15, z40_17, z40_47, z40_49, Option.bind_some, Option.toList_some, Option.toList_none, List.cons_append, List.nil_append, sc_i, sc_r, sc_l, sc_u, sc_s, List.length_nil, List.length_cons, Nat.reduceAdd, Nat.reduceLeDiff, Nat.zero_le, le4_0, le4_1, le4_2, le4_3, rz0, rz1, rzt, eq_self, tI_0, tI_n0, if_true, if_false, ne_eq, not_true_eq_false, not_false_eq_true, and_self, Bool.false_eq_true, geN (show i < 1000 by omega) (show i < 1000 by omega), Nat.le_refl]
    · by_cases c1 : bq d.2.1 j = true
      · rw [if_pos c1]; exact h
      · rw [if_neg c1]; exact h
  | succ n ih =>
    intro i hi w d r h0 pd h
    have hiN : i < N := by omega
    have e : ¬ N ≤ i := by omega
    obtain ⟨m1, m2⟩ := lt_n (hl i hiN)
    have hs := x_sign (X := X) (p := p + 2 + i) h0 hc (by omega) pd.2
    rw [pd.1, sg_in (by omega)] at hs
    obtain ⟨w1, a1, a2, a3, a4⟩ := t_speak (X := X) h0 (Or.inr rfl) h hj m2
    obtain ⟨w', b1, b2, b3, b4⟩ := ih (i + 1) (by omega) w1 _ (if bq d.2.1 j = true then 0 else 1) a2 (pd_ft pd a4) a3
    have elv : bq (if bq d.2.1 j = true then sayA le d j (g (p + 2 + i) - 97).toNatClampNeg else d).2.1 j = bq d.2.1 j := by
      by_cases c1 : bq d.2.1 j = true
      · rw [if_pos c1, say_lv]
      · rw [if_neg c1]
    rw [elv] at b1 b3
    refine ⟨w', ?_, b2, ?_, ft_tr a4 b4⟩
    · rw [if_neg (Nat.succ_ne_zero n), z40_13]
      have hr : (if n = 0 then (if bq d.2.1 j = true then (0 : Int32) else 1) else if bq d.2.1 j = true then 0 else 1) = if bq d.2.1 j = true then 0 else 1 := by
        by_cases z : n = 0
        · rw [if_pos z]
        · rw [if_neg z]
      rw [hr] at b1
      rw [← m1] at a1
      simp only [z40_15, z40_17, z40_20, z40_21, z40_24, z40_25, z40_26, z40_27, z40_29, z40_30, z40_33, z40_35, z40_36, z40_39, z40_41, z40_44, z40_47, z40_49, Option.bind_some, Option.toList_some, Option.toList_none, List.cons_append, List.nil_append, sc_i, sc_r, sc_l, sc_u, sc_s, List.length_nil, List.length_cons, Nat.reduceAdd, Nat.reduceLeDiff, Nat.zero_le, le4_0, le4_1, le4_2, le4_3, rz0, rz1, rzt, eq_self, fo_f, fo_a, fo_j, co_f, co_a, co_j, ao_f, ao_a, ao_j, zo_f, zo_a, zo_j, jo_f, jo_a, jo_j, al_f, al_a, al_j, fg_a, fg_j, ag_f, ag_j, jg_f, jg_a, fk_f, fk_a, fk_j, fi_a, fi_j, tI_0, tI_n0, if_true, if_false, ne_eq, not_true_eq_false, not_false_eq_true, and_self, Bool.false_eq_true, geN (show i < 1000 by omega) (show N < 1000 by omega), e, oc11 h0, of11_0 h0, og11_0 h0, of11_1 h0, og11_1 h0, ok11_1 h0, oc13 h0, of13_0 h0, og13_0 h0, of13_1 h0, og13_1 h0, ok13_1 h0, of13_2 h0, og13_2 h0, ok13_2 h0, of13_3 h0, og13_3 h0, ok13_3 h0, of13_4 h0, og13_4 h0, ok13_4 h0, of13_5 h0, og13_5 h0, ok13_5 h0, oc14 h0, of14_0 h0, og14_0 h0, of14_1 h0, og14_1 h0, of14_2 h0, og14_2 h0, of14_3 h0, og14_3 h0, of14_4 h0, og14_4 h0, ok14_4 h0, of14_5 h0, og14_5 h0, ok14_5 h0, of14_6 h0, og14_6 h0, ok14_6 h0, nI_add, hs, a1, nI_1, b1]
    · by_cases c1 : bq d.2.1 j = true
      · rw [if_pos c1] at b3 ⊢
        rw [if_pos c1] at b3
        exact b3
      · rw [if_neg c1] at b3 ⊢
        rw [if_neg c1] at b3
        exact b3
theorem x_try {X : Scr} {g ag le ti : Nat → Int32} {c p : Nat} {w : AW} {d : DS} (hc : c ≤ 60) (wf : wfA g c p) (h0 : OK w) (pd : PD g c w) (h : hT w 14 ag le ti d) : ∃ w', Z X 33 0 [.ref 13, .ref 11, .int (nI p), uns] [] w = some (some (.int (whyP g ag ti d p)), w') ∧ OK w' ∧ hT w' 14 ag le ti (if whyP g ag ti d p = 0 then goP g c ag le ti d p else d) ∧ FT 14 w w' := by
  obtain ⟨hp, wf⟩ := wf
  have s0 := x_sign (X := X) (p := p) h0 hc (by omega) pd.2
  have s1 := x_sign (X := X) (p := p + 1) h0 hc (by omega) pd.2
  have s2 := x_sign (X := X) (p := p + 2) h0 hc (by omega) pd.2
  have p1 : nI p + 1 = nI (p + 1) := nI_1 p
  have p2 : nI p + 2 = nI (p + 2) := by rw [show (2 : Int32) = nI 2 from rfl, nI_add]
  rw [pd.1, sg_in hp] at s0
  rw [pd.1] at s1 s2
  unfold whyP goP
  rcases wf with e33 | ⟨nm, hp1, e⟩
  · have k4 : aK g p = 4 := by unfold aK; rw [if_pos e33]
    obtain ⟨w', a1, a2, a3, a4⟩ := t_fall (X := X) (j := aJ g p) (t := aT g p) h0 (Or.inr rfl) h
    rw [k4, if_neg (show ¬ 4 = 1 by decide)]
    refine ⟨w', ?_, a2, a3, a4⟩
    rw [e33] at s0
    simp only [z33_0, z33_1, z33_2, z33_5, z33_7, z33_10, z33_11, z33_14, z33_17, z33_18, z33_19, z33_20, z33_23, z33_25, z33_26, z33_27, z33_28, z33_29, z33_30, z33_31, z33_34c0, z33_34c1, z33_34c2, z33_34d, z33_68, z33_69, z33_72, z33_73, z33_74, z33_75, z33_76, z33_77, z33_80, z33_82, z33_83, z33_86, z33_87, z33_88, z33_91, z33_92, z33_95, z33_96, z33_97, z33_100, z33_101, z33_104, z33_105, z33_106, z33_107, z33_108, z33_109, z33_110, z33_111, z33_114, Option.bind_some, Option.toList_some, Option.toList_none, List.cons_append, List.nil_append, sc_i, sc_r, sc_l, sc_u, sc_s, List.length_nil, List.length_cons, Nat.reduceAdd, Nat.reduceLeDiff, Nat.zero_le, le4_0, le4_1, le4_2, le4_3, rz0, rz1, rzt, eq_self, fo_f, fo_a, fo_j, co_f, co_a, co_j, ao_f, ao_a, ao_j, zo_f, zo_a, zo_j, jo_f, jo_a, jo_j, al_f, al_a, al_j, fg_a, fg_j, ag_f, ag_j, jg_f, jg_a, fk_f, fk_a, fk_j, fi_a, fi_j, tI_0, tI_n0, if_true, if_false, ne_eq, not_true_eq_false, not_false_eq_true, and_self, Bool.false_eq_true, s0, oc11 h0, of11_0 h0, og11_0 h0, of11_1 h0, og11_1 h0, ok11_1 h0, oc13 h0, of13_0 h0, og13_0 h0, of13_1 h0, og13_1 h0, ok13_1 h0, of13_2 h0, og13_2 h0, ok13_2 h0, of13_3 h0, og13_3 h0, ok13_3 h0, of13_4 h0, og13_4 h0, ok13_4 h0, of13_5 h0, og13_5 h0, ok13_5 h0, oc14 h0, of14_0 h0, og14_0 h0, of14_1 h0, og14_1 h0, of14_2 h0, og14_2 h0, of14_3 h0, og14_3 h0, of14_4 h0, og14_4 h0, ok14_4 h0, of14_5 h0, og14_5 h0, ok14_5 h0, of14_6 h0, og14_6 h0, ok14_6 h0, a1]
  · have n33 := nm_33 nm
    obtain ⟨m1, m2⟩ := nm_n nm
    have m2 : aJ g p < 8 := m2
    have m1 : g p - 65 = nI (aJ g p) := m1
    rw [sg_in hp1] at s1
    rcases e with e | e | ⟨e, hp2, nt⟩ | ⟨e, n, n1, n2, n3, n4⟩
    · have k2 : aK g p = 2 := by unfold aK; rw [if_neg n33, e, if_neg (by decide), if_pos rfl]
      obtain ⟨w', a1, a2, a3, a4⟩ := t_rest (X := X) (t := aT g p) h0 (Or.inr rfl) h m2
      rw [k2, if_neg (show ¬ 2 = 1 by decide)]
      refine ⟨w', ?_, a2, a3, a4⟩
      rw [e] at s1
      simp only [z33_0, z33_1, z33_2, z33_5, z33_7, z33_10, z33_11, z33_14, z33_17, z33_18, z33_19, z33_20, z33_23, z33_25, z33_26, z33_27, z33_28, z33_29, z33_30, z33_31, z33_34c0, z33_34c1, z33_34c2, z33_34d, z33_68, z33_69, z33_72, z33_73, z33_74, z33_75, z33_76, z33_77, z33_80, z33_82, z33_83, z33_86, z33_87, z33_88, z33_91, z33_92, z33_95, z33_96, z33_97, z33_100, z33_101, z33_104, z33_105, z33_106, z33_107, z33_108, z33_109, z33_110, z33_111, z33_114, Option.bind_some, Option.toList_some, Option.toList_none, List.cons_append, List.nil_append, sc_i, sc_r, sc_l, sc_u, sc_s, List.length_nil, List.length_cons, Nat.reduceAdd, Nat.reduceLeDiff, Nat.zero_le, le4_0, le4_1, le4_2, le4_3, rz0, rz1, rzt, eq_self, fo_f, fo_a, fo_j, co_f, co_a, co_j, ao_f, ao_a, ao_j, zo_f, zo_a, zo_j, jo_f, jo_a, jo_j, al_f, al_a, al_j, fg_a, fg_j, ag_f, ag_j, jg_f, jg_a, fk_f, fk_a, fk_j, fi_a, fi_j, tI_0, tI_n0, if_true, if_false, ne_eq, not_true_eq_false, not_false_eq_true, and_self, Bool.false_eq_true, sc_u, s0, n33, m1, p1, s1, oc11 h0, of11_0 h0, og11_0 h0, of11_1 h0, og11_1 h0, ok11_1 h0, oc13 h0, of13_0 h0, og13_0 h0, of13_1 h0, og13_1 h0, ok13_1 h0, of13_2 h0, og13_2 h0, ok13_2 h0, of13_3 h0, og13_3 h0, ok13_3 h0, of13_4 h0, og13_4 h0, ok13_4 h0, of13_5 h0, og13_5 h0, ok13_5 h0, oc14 h0, of14_0 h0, og14_0 h0, of14_1 h0, og14_1 h0, of14_2 h0, og14_2 h0, of14_3 h0, og14_3 h0, of14_4 h0, og14_4 h0, ok14_4 h0, of14_5 h0, og14_5 h0, ok14_5 h0, of14_6 h0, og14_6 h0, ok14_6 h0, a1]
    · have k3 : aK g p = 3 := by unfold aK; rw [if_neg n33, e, if_neg (by decide), if_neg (by decide), if_pos rfl]
      obtain ⟨w', a1, a2, a3, a4⟩ := t_die (X := X) (t := aT g p) h0 (Or.inr rfl) h m2
      rw [k3, if_neg (show ¬ 3 = 1 by decide)]
      refine ⟨w', ?_, a2, a3, a4⟩
      rw [e] at s1
      simp only [z33_0, z33_1, z33_2, z33_5, z33_7, z33_10, z33_11, z33_14, z33_17, z33_18, z33_19, z33_20, z33_23, z33_25, z33_26, z33_27, z33_28, z33_29, z33_30, z33_31, z33_34c0, z33_34c1, z33_34c2, z33_34d, z33_68, z33_69, z33_72, z33_73, z33_74, z33_75, z33_76, z33_77, z33_80, z33_82, z33_83, z33_86, z33_87, z33_88, z33_91, z33_92, z33_95, z33_96, z33_97, z33_100, z33_101, z33_104, z33_105, z33_106, z33_107, z33_108, z33_109, z33_110, z33_111, z33_114, Option.bind_some, Option.toList_some, Option.toList_none, List.cons_append, List.nil_append, sc_i, sc_r, sc_l, sc_u, sc_s, List.length_nil, List.length_cons, Nat.reduceAdd, Nat.reduceLeDiff, Nat.zero_le, le4_0, le4_1, le4_2, le4_3, rz0, rz1, rzt, eq_self, fo_f, fo_a, fo_j, co_f, co_a, co_j, ao_f, ao_a, ao_j, zo_f, zo_a, zo_j, jo_f, jo_a, jo_j, al_f, al_a, al_j, fg_a, fg_j, ag_f, ag_j, jg_f, jg_a, fk_f, fk_a, fk_j, fi_a, fi_j, tI_0, tI_n0, if_true, if_false, ne_eq, not_true_eq_false, not_false_eq_true, and_self, Bool.false_eq_true, sc_u, s0, n33, m1, p1, s1, oc11 h0, of11_0 h0, og11_0 h0, of11_1 h0, og11_1 h0, ok11_1 h0, oc13 h0, of13_0 h0, og13_0 h0, of13_1 h0, og13_1 h0, ok13_1 h0, of13_2 h0, og13_2 h0, ok13_2 h0, of13_3 h0, og13_3 h0, ok13_3 h0, of13_4 h0, og13_4 h0, ok13_4 h0, of13_5 h0, og13_5 h0, ok13_5 h0, oc14 h0, of14_0 h0, og14_0 h0, of14_1 h0, og14_1 h0, of14_2 h0, og14_2 h0, of14_3 h0, og14_3 h0, of14_4 h0, og14_4 h0, ok14_4 h0, of14_5 h0, og14_5 h0, ok14_5 h0, of14_6 h0, og14_6 h0, ok14_6 h0, a1]
    · have k0 : aK g p = 0 := by unfold aK; rw [if_neg n33, if_pos e]
      obtain ⟨t1, t2⟩ := nm_n nt
      have t2 : aT g p < 8 := t2
      have t1 : g (p + 2) - 65 = nI (aT g p) := t1
      obtain ⟨w', a1, a2, a3, a4⟩ := t_lend (X := X) h0 (Or.inr rfl) h m2 t2
      rw [k0, if_neg (show ¬ 0 = 1 by decide)]
      refine ⟨w', ?_, a2, a3, a4⟩
      rw [e] at s1
      rw [sg_in hp2] at s2
      simp only [z33_0, z33_1, z33_2, z33_5, z33_7, z33_10, z33_11, z33_14, z33_17, z33_18, z33_19, z33_20, z33_23, z33_25, z33_26, z33_27, z33_28, z33_29, z33_30, z33_31, z33_34c0, z33_34c1, z33_34c2, z33_34d, z33_68, z33_69, z33_72, z33_73, z33_74, z33_75, z33_76, z33_77, z33_80, z33_82, z33_83, z33_86, z33_87, z33_88, z33_91, z33_92, z33_95, z33_96, z33_97, z33_100, z33_101, z33_104, z33_105, z33_106, z33_107, z33_108, z33_109, z33_110, z33_111, z33_114, Option.bind_some, Option.toList_some, Option.toList_none, List.cons_append, List.nil_append, sc_i, sc_r, sc_l, sc_u, sc_s, List.length_nil, List.length_cons, Nat.reduceAdd, Nat.reduceLeDiff, Nat.zero_le, le4_0, le4_1, le4_2, le4_3, rz0, rz1, rzt, eq_self, fo_f, fo_a, fo_j, co_f, co_a, co_j, ao_f, ao_a, ao_j, zo_f, zo_a, zo_j, jo_f, jo_a, jo_j, al_f, al_a, al_j, fg_a, fg_j, ag_f, ag_j, jg_f, jg_a, fk_f, fk_a, fk_j, fi_a, fi_j, tI_0, tI_n0, if_true, if_false, ne_eq, not_true_eq_false, not_false_eq_true, and_self, Bool.false_eq_true, sc_u, s0, n33, m1, p1, s1, p2, s2, t1, oc11 h0, of11_0 h0, og11_0 h0, of11_1 h0, og11_1 h0, ok11_1 h0, oc13 h0, of13_0 h0, og13_0 h0, of13_1 h0, og13_1 h0, ok13_1 h0, of13_2 h0, og13_2 h0, ok13_2 h0, of13_3 h0, og13_3 h0, ok13_3 h0, of13_4 h0, og13_4 h0, ok13_4 h0, of13_5 h0, og13_5 h0, ok13_5 h0, oc14 h0, of14_0 h0, og14_0 h0, of14_1 h0, og14_1 h0, of14_2 h0, og14_2 h0, of14_3 h0, og14_3 h0, of14_4 h0, og14_4 h0, ok14_4 h0, of14_5 h0, og14_5 h0, ok14_5 h0, of14_6 h0, og14_6 h0, ok14_6 h0, a1]
    · have k1 : aK g p = 1 := by unfold aK; rw [if_neg n33, e, if_neg (by decide), if_neg (by decide), if_neg (by decide)]
      have hl := (len_4 hc n2 nm e n3 n4).2
      have hL := x_let (X := X) (p := p + 2) h0 hc (by omega) pd.2
      rw [pd.1, hl] at hL
      obtain ⟨w', a1, a2, a3, a4⟩ := x_spL (X := X) hc n2 m2 n3 n 0 (by omega) w d 0 h0 pd h
      have z0 : nI 0 = 0 := rfl
      rw [z0, if_neg (show ¬ n = 0 by omega)] at a1
      have m34 : ¬ (34 : Int32) = 43 := by decide
      have m35 : ¬ (34 : Int32) = 61 := by decide
      have m36 : ¬ (34 : Int32) = 62 := by decide
      rw [k1, if_pos rfl, hl, why_1]
      refine ⟨w', ?_, a2, ?_, a4⟩
      · rw [e] at s1
        simp only [z33_0, z33_1, z33_2, z33_5, z33_7, z33_10, z33_11, z33_14, z33_17, z33_18, z33_19, z33_20, z33_23, z33_25, z33_26, z33_27, z33_28, z33_29, z33_30, z33_31, z33_34c0, z33_34c1, z33_34c2, z33_34d, z33_68, z33_69, z33_72, z33_73, z33_74, z33_75, z33_76, z33_77, z33_80, z33_82, z33_83, z33_86, z33_87, z33_88, z33_91, z33_92, z33_95, z33_96, z33_97, z33_100, z33_101, z33_104, z33_105, z33_106, z33_107, z33_108, z33_109, z33_110, z33_111, z33_114, z40_0, z40_1, z40_3, z40_4, z40_5, z40_8, z40_10, z40_11, z40_15, z40_17, z40_20, z40_21, z40_24, z40_25, z40_26, z40_27, z40_29, z40_30, z40_33, z40_35, z40_36, z40_39, z40_41, z40_44, z40_47, z40_49, Option.bind_some, Option.toList_some, Option.toList_none, List.cons_append, List.nil_append, sc_i, sc_r, sc_l, sc_u, sc_s, List.length_nil, List.length_cons, Nat.reduceAdd, Nat.reduceLeDiff, Nat.zero_le, le4_0, le4_1, le4_2, le4_3, rz0, rz1, rzt, eq_self, fo_f, fo_a, fo_j, co_f, co_a, co_j, ao_f, ao_a, ao_j, zo_f, zo_a, zo_j, jo_f, jo_a, jo_j, al_f, al_a, al_j, fg_a, fg_j, ag_f, ag_j, jg_f, jg_a, fk_f, fk_a, fk_j, fi_a, fi_j, tI_0, tI_n0, if_true, if_false, ne_eq, not_true_eq_false, not_false_eq_true, and_self, Bool.false_eq_true, sc_u, s0, n33, m1, p1, s1, p2, m34, m35, m36, hL, oc11 h0, of11_0 h0, og11_0 h0, of11_1 h0, og11_1 h0, ok11_1 h0, oc13 h0, of13_0 h0, og13_0 h0, of13_1 h0, og13_1 h0, ok13_1 h0, of13_2 h0, og13_2 h0, ok13_2 h0, of13_3 h0, og13_3 h0, ok13_3 h0, of13_4 h0, og13_4 h0, ok13_4 h0, of13_5 h0, og13_5 h0, ok13_5 h0, oc14 h0, of14_0 h0, og14_0 h0, of14_1 h0, og14_1 h0, of14_2 h0, og14_2 h0, of14_3 h0, og14_3 h0, of14_4 h0, og14_4 h0, ok14_4 h0, of14_5 h0, og14_5 h0, ok14_5 h0, of14_6 h0, og14_6 h0, ok14_6 h0, a1]
      · by_cases c1 : bq d.2.1 (aJ g p) = true
        · rw [if_pos c1] at a3
          rw [if_pos c1, if_pos rfl]
          exact a3
        · rw [if_neg c1] at a3
          rw [if_neg c1, if_neg (by decide)]
          exact a3
