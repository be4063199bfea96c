/-! a row passed -/
theorem x_prowL {X : Scr} {a q n N : Nat} (ha : ¬ a = 87) (hn : n ≤ N) (hN : N < 1000) (hq : q + n ≤ 180) : ∀ (m i : Nat), i + m = n → ∀ w : AW, OK w → fI w 64 35 = nI (q + i) → aok w a = true → alen w a = N → ∃ w', Z X 163 2 [.ref 64, .ref a, .int (nI n), .int (nI i)] [] w = some (none, w') ∧ OK w' ∧ fI w' 64 35 = nI (q + n) ∧ (∀ f k, ¬ (64 = f ∧ 35 = k) → fI w' f k = fI w f k) ∧ (∀ j, i ≤ j → j < n → aget w' a j = rowY w a q j ∧ aget w' 87 (q + j) = rowY w a q j) ∧ (∀ j, j < i ∨ n ≤ j → aget w' a j = aget w a j) ∧ (∀ t, t < q + i ∨ q + n ≤ t → aget w' 87 t = aget w 87 t) ∧ (∀ c, ¬ c = a → ¬ c = 87 → aget w' c = aget w c) := by
  intro m
  induction m with
  | zero =>
    intro i hi w h0 hk hao hal
    have hi : i = n := hi
    subst hi
    refine ⟨w, ?_, h0, hk, fun _ _ _ => rfl, fun j h1 h2 => by omega, fun _ _ => rfl, fun _ _ => rfl, fun _ _ _ => rfl⟩
    rw [z163_2]
    simp only [z163_3, z163_4, z163_23, Option.bind_some, Option.toList_some, Option.toList_none, List.cons_append, List.nil_append, sc_i, sc_r, sc_l, sc_u, sc_s, List.length_nil, List.length_cons, Nat.reduceAdd, Nat.reduceLeDiff, Nat.zero_le, le4_0, le4_1, le4_2, le4_3, rz0, rz1, rzt, eq_self, tI_0, tI_n0, if_true, if_false, ne_eq, not_true_eq_false, not_false_eq_true, and_self, Bool.false_eq_true, geN (show i < 1000 by omega) (show i < 1000 by omega), Nat.le_refl]
  | succ m ih =>
    intro i hi w h0 hk hao hal
    have e : ¬ n ≤ i := by omega
    have hb : inB (nI i) N = true := inB_nI (by omega) (by omega)
    have hc : (nI i).toNatClampNeg = i := nI_clamp (by omega)
    have ha' : ¬ 87 = a := fun z => ha z.symm
    obtain ⟨Y, hY⟩ : ∃ Y, Y = pv w (q + i) (aget w a i) := ⟨_, rfl⟩
    have hYr : rowY w a q i = Y := by rw [hY]; rfl
    obtain ⟨W, hW⟩ : ∃ W, W = aset (pw1 w (q + i) (aget w a i)) a (upd (aget w a) i Y) := ⟨_, rfl⟩
    have okW : OK W := by rw [hW]; exact ok_a (pw1_ok h0)
    have w35 : fI W 64 35 = nI (q + (i + 1)) := by
      rw [hW, fi_a]
      unfold pw1
      rw [fi_s (by rw [fk_a]; exact ok64_35 h0)]
      rfl
    have wf : ∀ f k, ¬ (64 = f ∧ 35 = k) → fI W f k = fI w f k := fun f k z => by
      rw [hW, fi_a]
      unfold pw1
      rw [fi_n z, fi_a]
    have w87 : aget W 87 = upd (aget w 87) (q + i) Y := by
      rw [hW, ag_n ha]
      unfold pw1
      rw [ag_f, ag_s (oa87 h0), hY]
    have wa : aget W a = upd (aget w a) i Y := by
      rw [hW, ag_s (by unfold pw1; rw [ao_f, ao_a]; exact hao)]
    have wc : ∀ c, ¬ c = a → ¬ c = 87 → aget W c = aget w c := fun c z1 z2 => by
      rw [hW, ag_n (fun z => z1 z.symm)]
      unfold pw1
      rw [ag_f, ag_n (fun z => z2 z.symm)]
    have aoW : aok W a = true := by rw [hW]; unfold pw1; rw [ao_a, ao_f, ao_a]; exact hao
    have alW : alen W a = N := by rw [hW]; unfold pw1; rw [al_a, al_f, al_a]; exact hal
    obtain ⟨w', r1, r2, r3, r4, r5, r6, r7, r8⟩ := ih (i + 1) (by omega) W okW w35 aoW alW
    refine ⟨w', ?_, r2, r3, fun f k z => (r4 f k z).trans (wf f k z), fun j h1 h2 => ?_, fun j hj => ?_, fun t ht => ?_, fun c z1 z2 => (r8 c z1 z2).trans (wc c z1 z2)⟩
    · have hp := x_pass (X := X) (x := aget w a i) h0 (show q + i < 180 by omega) hk
      have ao1 : aok (pw1 w (q + i) (aget w a i)) a = true := by unfold pw1; rw [ao_f, ao_a]; exact hao
      have al1 : alen (pw1 w (q + i) (aget w a i)) a = N := by unfold pw1; rw [al_f, al_a]; exact hal
      have ag1 : aget (pw1 w (q + i) (aget w a i)) a = aget w a := by unfold pw1; rw [ag_f, ag_n ha']
      rw [← r1, hW, hY, z163_2]
      simp only [z163_0, z163_1, z163_3, z163_4, z163_7, z163_8, z163_9, z163_10, z163_11, z163_12, z163_13, z163_16, z163_17, z163_20, z163_23, Option.bind_some, Option.toList_some, Option.toList_none, List.cons_append, List.nil_append, sc_i, sc_r, sc_l, sc_u, sc_s, List.length_nil, List.length_cons, Nat.reduceAdd, Nat.reduceLeDiff, Nat.zero_le, le4_0, le4_1, le4_2, le4_3, rz0, rz1, rzt, eq_self, tI_0, tI_n0, if_true, if_false, ne_eq, not_true_eq_false, not_false_eq_true, and_self, Bool.false_eq_true, geN (show i < 1000 by omega) (show n < 1000 by omega), e, oc64 h0, of64_0 h0, og64_0 h0, ok64_0 h0, of64_1 h0, og64_1 h0, of64_2 h0, og64_2 h0, of64_3 h0, og64_3 h0, of64_4 h0, og64_4 h0, of64_5 h0, og64_5 h0, ok64_5 h0, of64_6 h0, og64_6 h0, ok64_6 h0, of64_7 h0, og64_7 h0, of64_8 h0, og64_8 h0, of64_9 h0, og64_9 h0, of64_10 h0, og64_10 h0, of64_11 h0, og64_11 h0, of64_12 h0, og64_12 h0, of64_13 h0, og64_13 h0, ok64_13 h0, of64_14 h0, og64_14 h0, of64_15 h0, og64_15 h0, ok64_15 h0, of64_16 h0, og64_16 h0, of64_17 h0, og64_17 h0, of64_18 h0, og64_18 h0, of64_19 h0, og64_19 h0, of64_20 h0, og64_20 h0, of64_21 h0, og64_21 h0, ok64_21 h0, of64_22 h0, og64_22 h0, of64_23 h0, og64_23 h0, ok64_23 h0, of64_24 h0, og64_24 h0, ok64_24 h0, of64_25 h0, og64_25 h0, ok64_25 h0, of64_26 h0, og64_26 h0, ok64_26 h0, of64_27 h0, og64_27 h0, ok64_27 h0, of64_28 h0, og64_28 h0, of64_29 h0, og64_29 h0, of64_30 h0, og64_30 h0, of64_31 h0, og64_31 h0, of64_32 h0, og64_32 h0, of64_33 h0, og64_33 h0, of64_34 h0, og64_34 h0, of64_35 h0, og64_35 h0, ok64_35 h0, of64_36 h0, og64_36 h0, ok64_36 h0, hao, hal, hb, hc, hp, ao1, al1, ag1, nI_1]
    · by_cases z : j = i
      · subst z
        rw [r6 j (Or.inl (by omega)), r7 (q + j) (Or.inl (by omega)), wa, w87, hYr, updI, updI, if_pos rfl, if_pos rfl]
        exact ⟨rfl, rfl⟩
      · have hrow : rowY W a q j = rowY w a q j := by
          unfold rowY
          rw [wf 64 36 (by decide), w87, wa, updI, updI, if_neg (show ¬ q + j = q + i by omega), if_neg z]
        rw [← hrow]
        exact r5 j (by omega) h2
    · rw [r6 j (by omega), wa, updI, if_neg (by omega)]
    · rw [r7 t (by omega), w87, updI, if_neg (by omega)]
theorem x_prow {X : Scr} {w : AW} {a q n N : Nat} (h0 : OK w) (ha : ¬ a = 87) (hn : n ≤ N) (hN : N < 1000) (hq : q + n ≤ 180) (hk : fI w 64 35 = nI q) (hao : aok w a = true) (hal : alen w a = N) : ∃ w', Z X 163 0 [.ref 64, .ref a, .int (nI n), uns] [] w = some (none, w') ∧ OK w' ∧ fI w' 64 35 = nI (q + n) ∧ (∀ f k, ¬ (64 = f ∧ 35 = k) → fI w' f k = fI w f k) ∧ (∀ j, j < n → aget w' a j = rowY w a q j ∧ aget w' 87 (q + j) = rowY w a q j) ∧ (∀ j, n ≤ j → aget w' a j = aget w a j) ∧ (∀ t, t < q ∨ q + n ≤ t → aget w' 87 t = aget w 87 t) ∧ (∀ c, ¬ c = a → ¬ c = 87 → aget w' c = aget w c) := by
  obtain ⟨w', r1, r2, r3, r4, r5, r6, r7, r8⟩ := x_prowL (X := X) (n := n) ha hn hN hq n 0 (by omega) w h0 hk hao hal
  have z0 : nI 0 = 0 := rfl
  rw [z0] at r1
  refine ⟨w', ?_, r2, r3, r4, fun j hj => r5 j (Nat.zero_le j) hj, fun j hj => r6 j (Or.inr hj), r7, r8⟩
  simp only [z163_0, z163_1, z163_3, z163_4, z163_7, z163_8, z163_9, z163_10, z163_11, z163_12, z163_13, z163_16, z163_17, z163_20, z163_23, Option.bind_some, Option.toList_some, Option.toList_none, List.cons_append, List.nil_append, sc_i, sc_r, sc_l, sc_u, sc_s, List.length_nil, List.length_cons, Nat.reduceAdd, Nat.reduceLeDiff, Nat.zero_le, le4_0, le4_1, le4_2, le4_3, rz0, rz1, rzt, eq_self, r1]
