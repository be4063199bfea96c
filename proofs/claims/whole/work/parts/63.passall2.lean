/-! passAll as a whole -/
def rowsL : List (Nat × Nat × Nat) := [(74, 70, 8), (73, 62, 8), (72, 54, 8), (71, 48, 6), (70, 42, 6), (69, 36, 6), (68, 28, 8), (67, 20, 8), (66, 12, 8), (65, 4, 8)]
def sclL : List (Nat × Nat) := [(13, 3), (6, 2), (5, 1), (0, 0)]
theorem psW_e {w : AW} {q k : Nat} : fset (pw1 w q (fI w 64 k)) 64 k (.int (pv w q (fI w 64 k))) = psW w q k := rfl
theorem x_passAll {X : Scr} {w : AW} {B : Nat} (h0 : OK w) (hB : B ≤ 90) (hk : fI w 64 35 = nI B) : ∃ w4 w', Z X 161 0 [.ref 64] [] w = some (none, w') ∧ PS w w4 B sclL 4 ∧ PR w4 w' B rowsL 78 := by
  have z8 : nI 8 = 8 := rfl
  have z6 : nI 6 = 6 := rfl
  have s0 := ps_0 h0 hk
  have e0 := x_pass (X := X) (x := fI w 64 0) s0.1 (show B + 0 < 180 by omega) s0.2.1
  have s1 : PS w (psW w (B + 0) 0) B [(0, 0)] 1 := ps_step s0 (by decide) (by decide) (by decide) (by decide)
  have k0 : OK (pw1 w (B + 0) (fI w 64 0)) := pw1_ok s0.1
  have d0 := psW_e (w := w) (q := B + 0) (k := 0)
  obtain ⟨x1, hx1⟩ : ∃ x, x = psW w (B + 0) 0 := ⟨_, rfl⟩
  rw [← hx1] at s1 d0
  have e1 := x_pass (X := X) (x := fI x1 64 5) s1.1 (show B + 1 < 180 by omega) s1.2.1
  have s2 : PS w (psW x1 (B + 1) 5) B [(5, 1), (0, 0)] 2 := ps_step s1 (by decide) (by decide) (by decide) (by decide)
  have k1 : OK (pw1 x1 (B + 1) (fI x1 64 5)) := pw1_ok s1.1
  have d1 := psW_e (w := x1) (q := B + 1) (k := 5)
  obtain ⟨x2, hx2⟩ : ∃ x, x = psW x1 (B + 1) 5 := ⟨_, rfl⟩
  rw [← hx2] at s2 d1
  have e2 := x_pass (X := X) (x := fI x2 64 6) s2.1 (show B + 2 < 180 by omega) s2.2.1
  have s3 : PS w (psW x2 (B + 2) 6) B [(6, 2), (5, 1), (0, 0)] 3 := ps_step s2 (by decide) (by decide) (by decide) (by decide)
  have k2 : OK (pw1 x2 (B + 2) (fI x2 64 6)) := pw1_ok s2.1
  have d2 := psW_e (w := x2) (q := B + 2) (k := 6)
  obtain ⟨x3, hx3⟩ : ∃ x, x = psW x2 (B + 2) 6 := ⟨_, rfl⟩
  rw [← hx3] at s3 d2
  have e3 := x_pass (X := X) (x := fI x3 64 13) s3.1 (show B + 3 < 180 by omega) s3.2.1
  have s4 : PS w (psW x3 (B + 3) 13) B [(13, 3), (6, 2), (5, 1), (0, 0)] 4 := ps_step s3 (by decide) (by decide) (by decide) (by decide)
  have k3 : OK (pw1 x3 (B + 3) (fI x3 64 13)) := pw1_ok s3.1
  have d3 := psW_e (w := x3) (q := B + 3) (k := 13)
  obtain ⟨x4, hx4⟩ : ∃ x, x = psW x3 (B + 3) 13 := ⟨_, rfl⟩
  rw [← hx4] at s4 d3
  have p0 := pr_0 s4.1 s4.2.1
  obtain ⟨y1, r0, p1⟩ := pr_step (X := X) (a := 65) (n := 8) p0 (by decide) (by decide) (by decide) (by decide) (by omega) (fun w h => oa65 h) (fun w h => ol65 h)
  rw [z8] at r0
  obtain ⟨y2, r1, p2⟩ := pr_step (X := X) (a := 66) (n := 8) p1 (by decide) (by decide) (by decide) (by decide) (by omega) (fun w h => oa66 h) (fun w h => ol66 h)
  rw [z8] at r1
  obtain ⟨y3, r2, p3⟩ := pr_step (X := X) (a := 67) (n := 8) p2 (by decide) (by decide) (by decide) (by decide) (by omega) (fun w h => oa67 h) (fun w h => ol67 h)
  rw [z8] at r2
  obtain ⟨y4, r3, p4⟩ := pr_step (X := X) (a := 68) (n := 8) p3 (by decide) (by decide) (by decide) (by decide) (by omega) (fun w h => oa68 h) (fun w h => ol68 h)
  rw [z8] at r3
  obtain ⟨y5, r4, p5⟩ := pr_step (X := X) (a := 69) (n := 6) p4 (by decide) (by decide) (by decide) (by decide) (by omega) (fun w h => oa69 h) (fun w h => ol69 h)
  rw [z6] at r4
  obtain ⟨y6, r5, p6⟩ := pr_step (X := X) (a := 70) (n := 6) p5 (by decide) (by decide) (by decide) (by decide) (by omega) (fun w h => oa70 h) (fun w h => ol70 h)
  rw [z6] at r5
  obtain ⟨y7, r6, p7⟩ := pr_step (X := X) (a := 71) (n := 6) p6 (by decide) (by decide) (by decide) (by decide) (by omega) (fun w h => oa71 h) (fun w h => ol71 h)
  rw [z6] at r6
  obtain ⟨y8, r7, p8⟩ := pr_step (X := X) (a := 72) (n := 8) p7 (by decide) (by decide) (by decide) (by decide) (by omega) (fun w h => oa72 h) (fun w h => ol72 h)
  rw [z8] at r7
  obtain ⟨y9, r8, p9⟩ := pr_step (X := X) (a := 73) (n := 8) p8 (by decide) (by decide) (by decide) (by decide) (by omega) (fun w h => oa73 h) (fun w h => ol73 h)
  rw [z8] at r8
  obtain ⟨y10, r9, p10⟩ := pr_step (X := X) (a := 74) (n := 8) p9 (by decide) (by decide) (by decide) (by decide) (by omega) (fun w h => oa74 h) (fun w h => ol74 h)
  rw [z8] at r9
  refine ⟨x4, y10, ?_, s4, p10⟩
  simp only [z161_0, z161_1, z161_2, z161_3, z161_6, z161_9, z161_12, z161_13, z161_14, z161_15, z161_18, z161_21, z161_24, z161_25, z161_26, z161_27, z161_30, z161_33, z161_36, z161_37, z161_38, z161_39, z161_42, z161_45, z161_48, z161_49, z161_50, z161_53, z161_55, z161_58, z161_59, z161_60, z161_63, z161_65, z161_68, z161_69, z161_70, z161_73, z161_75, z161_78, z161_79, z161_80, z161_83, z161_85, z161_88, z161_89, z161_90, z161_93, z161_95, z161_98, z161_99, z161_100, z161_103, z161_105, z161_108, z161_109, z161_110, z161_113, z161_115, z161_118, z161_119, z161_120, z161_123, z161_125, z161_128, z161_129, z161_130, z161_133, z161_135, z161_138, z161_139, z161_140, z161_143, z161_145, z161_148, Option.bind_some, Option.toList_some, Option.toList_none, List.cons_append, List.nil_append, sc_i, sc_r, sc_l, sc_u, sc_s, List.length_nil, List.length_cons, Nat.reduceAdd, Nat.reduceLeDiff, Nat.zero_le, le4_0, le4_1, le4_2, le4_3, rz0, rz1, rzt, eq_self, of64_0 s0.1, og64_0 s0.1, oc64 s0.1, e0, of64_0 k0, d0, of64_5 s1.1, og64_5 s1.1, oc64 s1.1, e1, of64_5 k1, d1, of64_6 s2.1, og64_6 s2.1, oc64 s2.1, e2, of64_6 k2, d2, of64_13 s3.1, og64_13 s3.1, oc64 s3.1, e3, of64_13 k3, d3, of64_1 p0.1, og64_1 p0.1, oc64 p0.1, r0, of64_2 p1.1, og64_2 p1.1, oc64 p1.1, r1, of64_3 p2.1, og64_3 p2.1, oc64 p2.1, r2, of64_4 p3.1, og64_4 p3.1, oc64 p3.1, r3, of64_7 p4.1, og64_7 p4.1, oc64 p4.1, r4, of64_8 p5.1, og64_8 p5.1, oc64 p5.1, r5, of64_9 p6.1, og64_9 p6.1, oc64 p6.1, r6, of64_10 p7.1, og64_10 p7.1, oc64 p7.1, r7, of64_11 p8.1, og64_11 p8.1, oc64 p8.1, r8, of64_12 p9.1, og64_12 p9.1, oc64 p9.1, r9]
/-- writing -/
theorem pa_w {w w4 w' : AW} {B : Nat} (ps : PS w w4 B sclL 4) (pr : PR w4 w' B rowsL 78) (hw : ¬ fI w 64 36 = 0) : OK w' ∧ (∀ c, ¬ c = 87 → aget w' c = aget w c) ∧ (∀ f k, ¬ (64 = f ∧ 35 = k) → fI w' f k = fI w f k) ∧ (∀ r ∈ rowsL, ∀ j, j < r.2.2 → aget w' 87 (B + r.2.1 + j) = aget w r.1 j) ∧ (∀ r ∈ sclL, aget w' 87 (B + r.2) = fI w 64 r.1) ∧ (∀ t, t < B ∨ B + 78 ≤ t → aget w' 87 t = aget w 87 t) := by
  obtain ⟨a0, a1, a2, a3, a4, a5, a6, a7⟩ := ps
  obtain ⟨b0, b1, b2, b3, b4, b5, b6, b7⟩ := pr
  have h36 : fI w4 64 36 = fI w 64 36 := a3 64 36 (by decide) (by decide)
  have hw4 : ¬ fI w4 64 36 = 0 := by rw [h36]; exact hw
  refine ⟨b0, fun c z => ?_, fun f k z => ?_, fun r hr j hj => ?_, fun r hr => ?_, fun t ht => ?_⟩
  · rw [← a5 c z]
    by_cases m : ∃ r ∈ rowsL, c = r.1
    · obtain ⟨r, hr, rfl⟩ := m
      exact b7 hw4 r hr
    · exact b5 c z (fun r hr e => m ⟨r, hr, e⟩)
  · rw [b2 f k z]
    by_cases m : ∃ r ∈ sclL, 64 = f ∧ r.1 = k
    · obtain ⟨r, hr, rfl, rfl⟩ := m
      exact a7 hw r hr
    · exact a3 f k z (fun r hr e => m ⟨r, hr, e⟩)
  · rw [(b3 r hr j hj).2]
    unfold rowY
    rw [if_neg hw4, a5 _ ((by decide : ∀ r ∈ rowsL, ¬ r.1 = 87) r hr)]
  · rw [b4 _ (Or.inl (by have := (by decide : ∀ r ∈ sclL, r.2 < 4) r hr; omega)), (a2 r hr).2]
    unfold sclY
    rw [if_neg hw]
  · rw [b4 t (by omega), a4 t (by omega)]
/-- reading -/
theorem pa_r {w w4 w' : AW} {B : Nat} (ps : PS w w4 B sclL 4) (pr : PR w4 w' B rowsL 78) (hw : fI w 64 36 = 0) : OK w' ∧ aget w' 87 = aget w 87 ∧ (∀ r ∈ rowsL, ∀ j, j < r.2.2 → aget w' r.1 j = aget w 87 (B + r.2.1 + j)) ∧ (∀ r ∈ sclL, fI w' 64 r.1 = aget w 87 (B + r.2)) ∧ (∀ c, ¬ c = 87 → (∀ r ∈ rowsL, ¬ c = r.1) → aget w' c = aget w c) ∧ (∀ f k, ¬ (64 = f ∧ 35 = k) → (∀ r ∈ sclL, ¬ (64 = f ∧ r.1 = k)) → fI w' f k = fI w f k) := by
  obtain ⟨a0, a1, a2, a3, a4, a5, a6, a7⟩ := ps
  obtain ⟨b0, b1, b2, b3, b4, b5, b6, b7⟩ := pr
  have h36 : fI w4 64 36 = fI w 64 36 := a3 64 36 (by decide) (by decide)
  have hw4 : fI w4 64 36 = 0 := by rw [h36]; exact hw
  refine ⟨b0, (b6 hw4).trans (a6 hw), fun r hr j hj => ?_, fun r hr => ?_, fun c z1 z2 => (b5 c z1 z2).trans (a5 c z1), fun f k z1 z2 => (b2 f k z1).trans (a3 f k z1 z2)⟩
  · rw [(b3 r hr j hj).1]
    unfold rowY
    rw [if_pos hw4, a6 hw]
  · rw [b2 64 r.1 (fun z => (by decide : ∀ r ∈ sclL, ¬ r.1 = 35) r hr z.2.symm), (a2 r hr).1]
    unfold sclY
    rw [if_pos hw]
/-! copies seen from outside -/
theorem fcp_ok {w : AW} {F G : Nat} (h : OK w) (hF : F = 1 ∨ F = 6 ∨ F = 14 ∨ F = 37 ∨ F = 51) : OK (fcp w F G) := by
  have h4 : OK (aset (aset (aset (aset w (F + 1) (cp8 (aget w (G + 1)) (aget w (F + 1)))) (F + 2) (cp8 (aget w (G + 2)) (aget w (F + 2)))) (F + 3) (cp8 (aget w (G + 3)) (aget w (F + 3)))) (F + 4) (cp8 (aget w (G + 4)) (aget w (F + 4)))) := ok_a (ok_a (ok_a (ok_a h)))
  unfold fcp
  rcases hF with rfl | rfl | rfl | rfl | rfl <;> exact ok_f (ok_f (ok_f h4 (by decide)) (by decide)) (by decide)
theorem fcp_o {w : AW} {F G c : Nat} (h1 : ¬ c = F + 1) (h2 : ¬ c = F + 2) (h3 : ¬ c = F + 3) (h4 : ¬ c = F + 4) : aget (fcp w F G) c = aget w c := by
  unfold fcp
  rw [ag_f, ag_f, ag_f, ag_n (fun z => h4 z.symm), ag_n (fun z => h3 z.symm), ag_n (fun z => h2 z.symm), ag_n (fun z => h1 z.symm)]
theorem fcp_i {w : AW} {F G i : Nat} (hF : famOK w F) (hi : i < 8) : aget (fcp w F G) (F + 1) i = aget w (G + 1) i ∧ aget (fcp w F G) (F + 2) i = aget w (G + 2) i ∧ aget (fcp w F G) (F + 3) i = aget w (G + 3) i ∧ aget (fcp w F G) (F + 4) i = aget w (G + 4) i := by
  unfold fcp
  refine ⟨?_, ?_, ?_, ?_⟩
  · rw [ag_f, ag_f, ag_f, ag_n (by omega), ag_n (by omega), ag_n (by omega), ag_s (fam_a1 hF), cp8_in hi]
  · rw [ag_f, ag_f, ag_f, ag_n (by omega), ag_n (by omega), ag_s (by rw [ao_a]; exact fam_a2 hF), cp8_in hi]
  · rw [ag_f, ag_f, ag_f, ag_n (by omega), ag_s (by rw [ao_a, ao_a]; exact fam_a3 hF), cp8_in hi]
  · rw [ag_f, ag_f, ag_f, ag_s (by rw [ao_a, ao_a, ao_a]; exact fam_a4 hF), cp8_in hi]
theorem fcp_f {w : AW} {F G : Nat} (hF : famOK w F) : fI (fcp w F G) F 4 = fI w G 4 ∧ fI (fcp w F G) F 5 = fI w G 5 ∧ fI (fcp w F G) F 6 = fI w G 6 := by
  unfold fcp
  refine ⟨?_, ?_, ?_⟩
  · rw [fi_n (fun z => absurd z.2 (by decide)), fi_n (fun z => absurd z.2 (by decide)), fi_s (by rw [fk_a, fk_a, fk_a, fk_a]; exact fam_k hF (by decide))]
  · rw [fi_n (fun z => absurd z.2 (by decide)), fi_s (by rw [fk_f, fk_a, fk_a, fk_a, fk_a]; exact fam_k hF (by decide))]
  · rw [fi_s (by rw [fk_f, fk_f, fk_a, fk_a, fk_a, fk_a]; exact fam_k hF (by decide))]
theorem fcp_fo {w : AW} {F G f k : Nat} (h : ¬ F = f ∨ k < 4 ∨ 6 < k) : fI (fcp w F G) f k = fI w f k := by
  unfold fcp
  rw [fi_n (by omega), fi_n (by omega), fi_n (by omega), fi_a, fi_a, fi_a, fi_a]
theorem tcp_ok {w : AW} {F G : Nat} (h : OK w) : OK (tcp w F G) := ok_a (ok_a (ok_a h))
theorem tcp_o {w : AW} {F G c : Nat} (h1 : ¬ c = F + 1) (h2 : ¬ c = F + 2) (h3 : ¬ c = F + 3) : aget (tcp w F G) c = aget w c := by
  unfold tcp
  rw [ag_n (fun z => h3 z.symm), ag_n (fun z => h2 z.symm), ag_n (fun z => h1 z.symm)]
theorem tcp_i {w : AW} {F G i : Nat} (hF : tskOK w F) (hi : i < 6) : aget (tcp w F G) (F + 1) i = aget w (G + 1) i ∧ aget (tcp w F G) (F + 2) i = aget w (G + 2) i ∧ aget (tcp w F G) (F + 3) i = aget w (G + 3) i := by
  obtain ⟨f0, f1, f2, f3, f4, f5, f6, f7, f8, f9⟩ := hF
  unfold tcp
  refine ⟨?_, ?_, ?_⟩
  · rw [ag_n (by omega), ag_n (by omega), ag_s f4, cp6_in hi]
  · rw [ag_n (by omega), ag_s (by rw [ao_a]; exact f5), cp6_in hi]
  · rw [ag_s (by rw [ao_a, ao_a]; exact f6), cp6_in hi]
theorem tcp_f {w : AW} {F G f k : Nat} : fI (tcp w F G) f k = fI w f k := by
  unfold tcp
  rw [fi_a, fi_a, fi_a]
