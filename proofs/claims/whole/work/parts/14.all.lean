/-! The builtins, the body, the law -/
section ALL
variable {p : Program} {l : Launch} {e : Env} {R : Room} {s : State} {m : MethodId} {args : Array Value} {below : List Frame} {meth : Method} {c : Code} {Q : State → Prop} {X : Scr} {b : Nat} {ad : Nat → Nat} {D : va_G} {tc : FieldType → ClassId} {A : Nat → Prop} {mi : Nat}
theorem nat_in (w : Jvm.Cond) (h : w ∈ ([Cond.native arraycopyName, .static arraycopyName, .initialized "java/lang/System", .instanceMethod objectInit, .code objectInit ⟨#[0xb1]⟩ 1 none, .static Lib.Math.max.name, .static Lib.Math.min.name, .initialized "java/lang/Math", .code Lib.Math.max.name Lib.Math.max.code 2 (some .int), .code Lib.Math.min.name Lib.Math.min.code 2 (some .int)] : List Jvm.Cond)) : w ∈ kWs := by
  have := List.all_eq_true.mp nat_all w h
  simp only [Bool.and_eq_true, decide_eq_true_eq] at this
  exact List.mem_filter.mpr this
theorem notneg {x : Int32} (h : decide (0 ≤ x.toInt) = true) : ¬ x < 0 := by
  simp only [decide_eq_true_eq] at h
  intro q
  have := Int32.lt_iff_toInt_lt.mp q
  rw [Int32.toInt_zero] at this
  omega
theorem toInt_nn {z : Int32} (h : ¬ z < 0) : z.toInt = (z.toNatClampNeg : Int) := by
  have h0 : (0 : Int) ≤ z.toInt := by
    rcases Int.lt_or_le z.toInt 0 with q | q
    · exact absurd (Int32.lt_iff_toInt_lt.mpr (by rw [Int32.toInt_zero]; exact q)) h
    · exact q
  show z.toInt = ((z.toInt.toNat : Nat) : Int)
  omega
theorem builtin_sound {pc c0 s0 : Nat} {eo : kO} {S S1 : List Value} {w w2 : AW} {H : Heap} {locs : List Loc} {ls : Array Slot} (C : Cx p R s m args meth c X b D tc A mi) (hm : mi ≤ kN) (hk : kI mi pc = some eo) (hc : callE eo S w = some (none, S1, w2)) (hW : WR b ad D tc A w H) (hS : va_S A s.heap H locs) (hls : ls.size = (kM mi).2.2.1) (hc0 : c0 ≤ R.cells) (hs0 : s0 ≤ R.slots)
    (kk : ∀ (H' : Heap) (locs' : List Loc), WR b ad D tc A w2 H' → va_S A s.heap H' locs' → W p l e R s m args below meth c H' locs' c0 s0 Q (F0 m (pc + 3) ls (S1.map (cv b ad)))) : W p l e R s m args below meth c H locs c0 s0 Q (F0 m pc ls (S.map (cv b ad))) := by
  obtain ⟨hd, hl, hp⟩ := eOK_dec (kI_ok hm hk)
  obtain ⟨hx, hb, hml, hts, hown, hini, hNW, hK, hX, hbl, hbA, hA, hfr, hlo⟩ := C
  obtain ⟨hP, hD, hF⟩ := id hW
  obtain ⟨i, len, a, k, pp, v⟩ := eo
  dsimp only at hd hl
  cases i with
  | invokespecial idx =>
    cases len_of hl (by simp [ilen])
    simp only [callE, Bool.cond_eq_ite] at hc
    split at hc
    · rename_i h6
      split at hc
      · split at hc
        · rename_i x S' h4
          simp only [Option.some.injEq, Prod.mk.injEq, true_and] at hc
          obtain ⟨rfl, rfl⟩ := hc
          simp only [pOK, Bool.cond_eq_ite, h6, if_true, Bool.and_eq_true] at hp
          obtain ⟨⟨hp1, hp2⟩, hp3⟩ := hp
          have hq2 := Nat.le_of_ble_eq_true hp2
          have hq3 := Nat.le_of_ble_eq_true hp3
          have hcs := cat_sum (b := b) (ad := ad) S'
          have hq4 := Nat.le_of_ble_eq_true h4
          refine W.objInit hx hb hown (hts _ (wAt_in hp1)) (hts _ (nat_in _ (by simp))) (hts _ (nat_in _ (by simp))) rfl (by rw [hml]; exact hls) (a := ad x) (rest := S'.map (cv b ad)) rfl hd (by omega) (by show 2 * 0 + _ + 12 ≤ _; omega) ?_
          exact W.eq rfl (kk H locs hW hS)
        · cases hc
      · cases hc
    · split at hc
      · split at hc
        · simp at hc
        · cases hc
      · cases hc
  | invokestatic idx =>
    cases len_of hl (by simp [ilen])
    simp only [callE, Bool.cond_eq_ite] at hc
    split at hc
    · rename_i h7
      split at hc
      · split at hc
        · rename_i n dp a1 sp a0 S' hcond
          simp only [Bool.and_eq_true] at hcond
          obtain ⟨⟨⟨⟨⟨⟨⟨g1, g2⟩, g3⟩, g4⟩, g5⟩, g6⟩, g7⟩, g8⟩ := hcond
          simp only [Option.some.injEq, Prod.mk.injEq, true_and] at hc
          obtain ⟨rfl, rfl⟩ := hc
          simp only [pOK, Bool.cond_eq_ite, h7, if_true, Bool.and_eq_true] at hp
          obtain ⟨⟨hp1, hp2⟩, hp3⟩ := hp
          have hq2 := Nat.le_of_ble_eq_true hp2
          have hq3 := Nat.le_of_ble_eq_true hp3
          have hcs := cat_sum (b := b) (ad := ad) S'
          have hq4 := Nat.le_of_ble_eq_true g8
          obtain ⟨n0, f0, e1, e2, e3, -⟩ := aok_spec g1
          obtain ⟨n1, f1, r1, r2, r3, r4⟩ := aok_spec g2
          have l6 := Nat.le_of_ble_eq_true g6
          have l7 := Nat.le_of_ble_eq_true g7
          rw [e3] at l6
          rw [r3] at l7
          rw [r4, e2, r2] at kk
          have n3 := notneg g3
          have n4 := notneg g4
          have n5 := notneg g5
          intro T hT TX
          have hc0' : H[ad a0]? = some (vp_cell (tc .int) (n0, .inl f0)) := hP a0 _ (cW_get e1)
          have hc1' : H[ad a1]? = some (vp_cell (tc .int) (n1, .inl f1)) := hP a1 _ (cW_get r1)
          obtain ⟨-, k0, hk0, cm0, hkk0⟩ := (hK.2 0 _ rfl).1 n0 (fun j => .int (f0 j))
          obtain ⟨-, k1, hk1, cm1, hkk1⟩ := (hK.2 0 _ rfl).1 n1 (fun j => .int (f1 j))
          have hstep := TX.arraycopy hx hown (hts _ (wAt_in hp1)) (hts _ (nat_in _ (by simp))) (hts _ (nat_in _ (by simp))) (hts _ (nat_in _ (by simp))) (src := ad a0) (dst := ad a1) (cs := vp_cell (tc .int) (n0, .inl f0)) (cd := vp_cell (tc .int) (n1, .inl f1)) (srcPos := sp) (destPos := dp) (n := n) (by rw [hT]; exact hc0') (by rw [hT]; exact hc1')
            (fun _ h => by cases h) (fun _ h => by cases h) (fun h => by cases h) (fun h => by cases h) hk0 hk1 hkk0 hkk1 (by rfl) n3 n4 n5
            (by rw [toInt_nn n3, toInt_nn n5]; show ¬ _ > ((arrV (tc .int) n0 (fun j => .int (f0 j))).slots.size : Int); rw [arrV_size]; omega)
            (by rw [toInt_nn n4, toInt_nn n5]; show ¬ _ > ((arrV (tc .int) n1 (fun j => .int (f1 j))).slots.size : Int); rw [arrV_size]; omega)
            (fun vm₁ _ j hj => by
              have ee : (vp_cell (tc .int) (n0, .inl f0)).slots.getD (sp.toNatClampNeg + j) .null = .int (f0 (sp.toNatClampNeg + j)) := by
                show (arrV (tc .int) n0 (fun j => .int (f0 j))).slots.getD _ _ = _
                rw [Array.getD_eq_getD_getElem?, arrV_read _ _ (by omega)]
                rfl
              rw [ee]
              exact ⟨rfl, trivial⟩)
            (g := F0 m pc ls (.int n :: .int dp :: .ref (ad a1) :: .int sp :: .ref (ad a0) :: S'.map (cv b ad))) rfl (by rw [hml]; exact hls) (rest := S'.map (cv b ad)) rfl (by rw [hb]; exact hd) (by omega) (by show 2 * 0 + _ + (7 + 11) ≤ _; omega)
          obtain ⟨vm', X', step⟩ := hstep
          have ec : copied (vp_cell (tc .int) (n0, .inl f0)) (vp_cell (tc .int) (n1, .inl f1)) sp dp n = vp_cell (tc .int) (n1, .inl (va_cpy f0 f1 sp.toNatClampNeg dp.toNatClampNeg n.toNatClampNeg)) := va_copied (fun z => .int z) (tc .int) (tc .int) f0 f1 l6
          rw [ec] at X' step
          have hl2 : ad a1 < H.size := (Array.getElem?_eq_some_iff.mp hc1').1
          have hheap : ((T.setVm vm').setCell (ad a1) (vp_cell (tc .int) (n1, .inl (va_cpy f0 f1 sp.toNatClampNeg dp.toNatClampNeg n.toNatClampNeg)))).heap = H.setIfInBounds (ad a1) (vp_cell (tc .int) (n1, .inl (va_cpy f0 f1 sp.toNatClampNeg dp.toNatClampNeg n.toNatClampNeg))) := by rw [← hT]; rfl
          have oq : ∀ q : Nat, q ≠ ad a1 → (H.setIfInBounds (ad a1) (vp_cell (tc .int) (n1, .inl (va_cpy f0 f1 sp.toNatClampNeg dp.toNatClampNeg n.toNatClampNeg))))[q]? = H[q]? := fun q hq => by simp [Array.getElem?_setIfInBounds, Ne.symm hq]
          have hAa : A (ad a1) := hD.2 a1 _ (cW_get r1)
          obtain ⟨t, a2, b2⟩ := kk _ _ (hW.upd r1 (show (H.setIfInBounds (ad a1) _)[ad a1]? = some _ by simp [Array.getElem?_setIfInBounds, hl2, cE]) (by simp) oq) ⟨by simp; exact hS.1, fun q q1 q2 => by
              rw [oq q (fun e => q2 (by rw [e]; exact hAa))]
              exact hS.2.1 q q1 q2, fun q hq => by
              rcases List.mem_append.mp hq with h | h
              · exact hS.2.2 q h
              · obtain ⟨z, -, hz⟩ := List.mem_map.mp h
                rw [← hz]
                exact hAa⟩ _ hheap X'
          exact ⟨t, step t a2, b2⟩
        · cases hc
      · cases hc
    · rename_i h7
      split at hc
      · rename_i h8
        split at hc
        · split at hc
          · rename_i y' x' S' h4
            simp only [Option.some.injEq, Prod.mk.injEq, true_and] at hc
            obtain ⟨rfl, rfl⟩ := hc
            simp only [pOK, Bool.cond_eq_ite, h7, h8, if_true, if_false, Bool.false_eq_true, Bool.and_eq_true] at hp
            obtain ⟨⟨hp1, hp2⟩, hp3⟩ := hp
            have hq2 := Nat.le_of_ble_eq_true hp2
            have hq3 := Nat.le_of_ble_eq_true hp3
            have hcs := cat_sum (b := b) (ad := ad) S'
            have hq4 := Nat.le_of_ble_eq_true h4
            exact va_mmax hx hb (by rw [hml]; exact hls.symm) hown (hts _ (wAt_in hp1)) (hts _ (nat_in _ (by simp))) (hts _ (nat_in _ (by simp))) (hts _ (nat_in _ (by simp))) (by omega) (by omega) hc0 hs0 hd (kk H locs hW hS)
          · cases hc
        · cases hc
      · rename_i h8
        split at hc
        · rename_i h9
          split at hc
          · split at hc
            · rename_i y' x' S' h4
              simp only [Option.some.injEq, Prod.mk.injEq, true_and] at hc
              obtain ⟨rfl, rfl⟩ := hc
              simp only [pOK, Bool.cond_eq_ite, h7, h8, h9, if_true, if_false, Bool.false_eq_true, Bool.and_eq_true] at hp
              obtain ⟨⟨hp1, hp2⟩, hp3⟩ := hp
              have hq2 := Nat.le_of_ble_eq_true hp2
              have hq3 := Nat.le_of_ble_eq_true hp3
              have hcs := cat_sum (b := b) (ad := ad) S'
              have hq4 := Nat.le_of_ble_eq_true h4
              exact va_mmin hx hb (by rw [hml]; exact hls.symm) hown (hts _ (wAt_in hp1)) (hts _ (nat_in _ (by simp))) (hts _ (nat_in _ (by simp))) (hts _ (nat_in _ (by simp))) (by omega) (by omega) hc0 hs0 hd (kk H locs hW hS)
            · cases hc
          · cases hc
        · split at hc
          · split at hc
            · simp at hc
            · cases hc
          · cases hc
  | invokevirtual idx =>
    simp only [callE, Bool.cond_eq_ite] at hc
    split at hc
    · split at hc
      · simp at hc
      · cases hc
    · cases hc
  | _ => simp [callE] at hc
end ALL
theorem body_sound (l : Launch) (X : Scr) (b : Nat) (ad : Nat → Nat) (D : va_G) (tc : FieldType → ClassId) : ∀ n, BS l X b ad D tc n := by
  intro n
  induction n with
  | zero => intro p e R s m args below meth c Q A mi r w1 c1 s1 hm C hend hc1 hs1 pc L S w H locs ls c0 s0 hev; simp [ev] at hev
  | succ n ih =>
    intro p e R s m args below meth c Q A mi r w1 c1 s1 hm C hend hc1 hs1 pc L S w H locs ls c0 s0 hev ec es hW hS hL
    rw [ev] at hev
    cases hk : kI mi pc with
    | none => rw [hk] at hev; cases hev
    | some eo =>
      rw [hk] at hev
      dsimp only at hev
      cases hs : stepI X mi pc eo L S w with
      | some q =>
        rw [hs] at hev
        dsimp only at hev
        have g1 := ev_gr _ _ _ _ _ _ _ hev
        have g2 := stepI_gr hs
        obtain ⟨g1a, g1b⟩ := g1
        obtain ⟨g2a, g2b⟩ := g2
        dsimp only at g1a g1b
        refine step_sound C hm hk hs hW hS hL ⟨by omega, by omega⟩ ?_
        intro H' locs' ls' c' s' e1 e2 hW' hS' hL'
        exact ih p e R s m args below meth c Q A mi r w1 c1 s1 hm C hend hc1 hs1 _ _ _ _ _ _ _ _ _ hev (by omega) (by omega) hW' hS' hL'
      | none =>
        rw [hs] at hev
        dsimp only at hev
        cases hcl : callE eo S w with
        | none =>
          rw [hcl] at hev
          dsimp only at hev
          cases hri : retI mi eo S with
          | none => rw [hri] at hev; cases hev
          | some r' =>
            rw [hri] at hev
            simp only [Option.some.injEq, Prod.mk.injEq] at hev
            obtain ⟨rfl, rfl⟩ := hev
            have e1 : c0 = c1 := by omega
            have e2 : s0 = s1 := by omega
            subst e1
            subst e2
            exact hend pc eo S H locs ls hk hri hW hS
        | some q =>
          rw [hcl] at hev
          have g2 := callE_gr hcl
          obtain ⟨o, S1, w2⟩ := q
          obtain ⟨g2a, g2b⟩ := g2
          dsimp only at g2a g2b
          cases o with
          | none =>
            dsimp only at hev
            have g1 := ev_gr _ _ _ _ _ _ _ hev
            obtain ⟨g1a, g1b⟩ := g1
            dsimp only at g1a g1b
            have hww : w2.length = w.length ∧ tot w2 = tot w := by
              obtain ⟨i, rest⟩ := eo
              cases i with
              | invokespecial idx =>
                simp only [callE, Bool.cond_eq_ite] at hcl
                repeat' (split at hcl)
                all_goals first
                  | (simp at hcl; done)
                  | (simp only [Option.some.injEq, Prod.mk.injEq, true_and] at hcl; obtain ⟨-, rfl⟩ := hcl; exact ⟨rfl, rfl⟩)
              | invokestatic idx =>
                simp only [callE, Bool.cond_eq_ite] at hcl
                repeat' (split at hcl)
                all_goals first
                  | (simp at hcl; done)
                  | (simp only [Option.some.injEq, Prod.mk.injEq, true_and] at hcl; obtain ⟨-, rfl⟩ := hcl; exact ⟨rfl, rfl⟩)
                  | (rename_i hcond
                     simp only [Bool.and_eq_true] at hcond
                     obtain ⟨⟨⟨⟨⟨⟨⟨-, z2⟩, -⟩, -⟩, -⟩, -⟩, -⟩, -⟩ := hcond
                     obtain ⟨n1, f1, r1, -, -, r4⟩ := aok_spec z2
                     simp only [Option.some.injEq, Prod.mk.injEq, true_and] at hcl
                     obtain ⟨-, rfl⟩ := hcl
                     rw [r4]
                     exact ⟨by simp, by rw [tot_set r1]; rfl⟩)
              | invokevirtual idx =>
                simp only [callE, Bool.cond_eq_ite] at hcl
                repeat' (split at hcl)
                all_goals simp at hcl
              | _ => simp [callE] at hcl
            obtain ⟨hw1, hw2⟩ := hww
            refine builtin_sound C hm hk hcl hW hS hL.1 (by omega) (by omega) fun H' locs' hW' hS' => ?_
            exact ih p e R s m args below meth c Q A mi r w1 c1 s1 hm C hend hc1 hs1 _ _ _ _ _ _ _ _ _ hev (by omega) (by omega) hW' hS' hL
          | some ya =>
            obtain ⟨y, As⟩ := ya
            dsimp only at hev
            cases hy : ev X n y 0 (entryL (kM y).2.2.1 As) [] w2 with
            | none => rw [hy] at hev; cases hev
            | some q3 =>
              rw [hy] at hev
              dsimp only at hev
              have g1 := ev_gr _ _ _ _ _ _ _ hev
              have g3 := ev_gr _ _ _ _ _ _ _ hy
              obtain ⟨r3, w3⟩ := q3
              obtain ⟨g1a, g1b⟩ := g1
              obtain ⟨g3a, g3b⟩ := g3
              dsimp only at g1a g1b g3a g3b hev
              have hww : c0 + (w3.length - w2.length) ≤ R.cells ∧ s0 + (tot w3 - tot w2) ≤ R.slots := ⟨by omega, by omega⟩
              refine call_sound C hm hk hcl hW hS hL.1 (fun hyl hlen => con_of ih hyl hlen hy) hww fun hw2 H' locs' hW' hS' => ?_
              subst hw2
              exact ih p e R s m args below meth c Q A mi r w1 c1 s1 hm C hend hc1 hs1 _ _ _ _ _ _ _ _ _ hev (by omega) (by omega) hW' hS' hL
