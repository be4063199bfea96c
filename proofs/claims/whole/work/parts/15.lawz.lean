/-! The law: what its picture comes to is what the machine comes to -/
theorem nest_ok : ∀ w ∈ lw_tbl, w.onTables = true ∨ True := fun _ _ => Or.inr trivial
theorem law_sound {p : Program} {e : Env} {s : State} {m : MethodId} {below : List Frame} {meth : Method} {c : Code} (l : Launch) {b L : Nat} {xs : Nat → Int32} (C0 : lw_At p s m meth c b L xs) {w1 : AW} (hz : Z (L, xs) kN 0 (entryL 4 [.retAddr 0]) [] [] = some (some (.int 1), w1)) (hw : w1.length ≤ 89 ∧ tot w1 ≤ 2870) : W p l e room_1 s m #[Value.ref b] below meth c s.heap [] 0 0 (lw_Z below #[Value.ref b] s) (entryFrame m ([Value.ref b] : List Value).toArray 4) := by
  obtain ⟨hx, hb, hr, hml, hown, hts, hX, hbl, hlocks, hgv⟩ := id C0
  obtain ⟨n, hev⟩ := Z_iff.mp hz
  have htk : ∀ w ∈ kWs, w.before #[Value.ref b] s = true := fun w h => hts w (List.mem_filter.mp h).1
  have hcls : ∀ k : Nat, ∃ (cC : ClassId), ∃ (iS : Nat → Nat), ∀ q : vw_C, vwCl[k]? = some q → u_Kn s q.1 q.2.1 q.2.2 cC iS := by
    intro k
    cases hq : vwCl[k]? with
    | none => exact ⟨0, fun _ => 0, fun q h => by cases h⟩
    | some q =>
      have hci : k < 10 := (List.getElem?_eq_some_iff.mp hq).1
      have hc := cOK_lo hci
      simp only [cOK, hq, Bool.and_eq_true] at hc
      obtain ⟨⟨⟨⟨⟨hc1, hc2⟩, hc3⟩, hc4⟩, hc5⟩, hc6⟩ := hc
      have hin : ∀ w ∈ u_ws q.1 q.2.1 q.2.2, w ∈ kWs := fun w hw => by
        have := List.all_eq_true.mp hc3 w hw
        simp only [Bool.and_eq_true, decide_eq_true_eq] at this
        exact List.mem_filter.mpr this
      obtain ⟨cC, iS, h⟩ := u_known (C := q.1) (T := q.2.1) (N := q.2.2) htk hin (htk _ (wAt_in hc1))
      exact ⟨cC, iS, fun q' h' => by cases h'; exact h⟩
  obtain ⟨dC, hdC⟩ := Classical.axiomOfChoice hcls
  obtain ⟨dI, hdI⟩ := Classical.axiomOfChoice hdC
  have harrs : wAt kArr.1 (.arrayClass .int) = true ∧ wAt kArr.2.1 (.arrayClass .long) = true ∧ wAt kArr.2.2 (.arrayClass .boolean) = true := by
    have := arr_all
    simp only [Bool.and_eq_true] at this
    exact ⟨this.1.1, this.1.2, this.2⟩
  have hty : ∀ ty : FieldType, ∃ cA : ClassId, (ty = .int ∨ ty = .long ∨ ty = .boolean) → ArrOfT s cA ty ∧ va_RA s cA ty := by
    intro ty
    by_cases ht : ty = .int ∨ ty = .long ∨ ty = .boolean
    · have hbf : (Cond.arrayClass ty).before #[Value.ref b] s = true := by
        rcases ht with rfl | rfl | rfl
        · exact htk _ (wAt_in harrs.1)
        · exact htk _ (wAt_in harrs.2.1)
        · exact htk _ (wAt_in harrs.2.2)
      obtain ⟨cA, kA, comp, h1, h2, h3⟩ := Cond.arrayClass_spec hbf
      refine ⟨cA, fun _ => ⟨fun n z => ⟨fun k h => (by cases h), kA, h2, comp, h3⟩, ?_⟩⟩
      rcases ht with rfl | rfl | rfl <;> exact h1
    · exact ⟨0, fun h => absurd h ht⟩
  obtain ⟨tc, htc⟩ := Classical.axiomOfChoice hty
  have hK : va_K (dC, dI) vwCl (kTys tc) s := by
    refine ⟨fun k q h => hdI k q h, fun k q h => ?_⟩
    match k, h with
    | 0, h => cases h; exact htc .int (Or.inl rfl)
    | 1, h => cases h; exact htc .long (Or.inr (Or.inl rfl))
    | 2, h => cases h; exact htc .boolean (Or.inr (Or.inr rfl))
    | k + 3, h => simp [kTys] at h
  have hNW : NW s := fun a i x h hin => va_Nw.of rfl (hts _ hin)
  have hbA : ¬ (fun q : Nat => s.heap.size ≤ q) b := Nat.not_le.mpr hbl
  have C : Cx p room_1 s m #[Value.ref b] meth c (L, xs) b (dC, dI) tc (fun q : Nat => s.heap.size ≤ q) kN :=
    ⟨hx, hb, hml, htk, hown, fun h => absurd h (by decide), hNW, hK, hX, hbl, hbA, fun q h => h, by decide, by decide⟩
  have hl := lv_entry ([.ref b]) (n := 4) (Nat.le_of_ble_eq_true rfl)
  rw [lg_entry_eq]
  generalize (lg_sl ([.ref b]) ++ List.replicate (4 - (lg_sl ([.ref b])).length) Slot.unset).toArray = ls at hl ⊢
  have hLk : LOK b (fun k => s.heap.size + k) ls 4 (entryL 4 [.retAddr 0]) := LOK.entry (As := [.retAddr 0]) (by decide) hl
  have hend : EndOK p l e room_1 s m #[Value.ref b] below meth c (lw_Z below #[Value.ref b] s) b (fun k => s.heap.size + k) (dC, dI) tc (fun q : Nat => s.heap.size ≤ q) kN w1.length (tot w1) (some (.int 1)) w1 := by
    intro pc eo S H locs ls hk hri hW hS
    obtain ⟨hd, hln, -⟩ := eOK_dec (kI_ok (Nat.le_refl kN) hk)
    obtain ⟨i, len, rest⟩ := eo
    dsimp only at hd hln
    cases i with
    | ireturn =>
      cases len_of hln (by simp [ilen])
      simp only [retI, Bool.cond_eq_ite] at hri
      split at hri
      · split at hri
        · simp only [Option.some.injEq, Value.int.injEq] at hri
          subst hri
          refine va_forget hS.2.2 (W.widen (k := 89) (n := 2870) hw.1 hw.2 ?_)
          exact lw_ret hx hb hr hlocks hd
        · cases hri
      · cases hri
    | lreturn =>
      simp only [retI, Bool.cond_eq_ite] at hri
      repeat' (split at hri)
      all_goals simp at hri
    | areturn =>
      simp only [retI, Bool.cond_eq_ite] at hri
      repeat' (split at hri)
      all_goals simp at hri
    | return_ =>
      simp only [retI, Bool.cond_eq_ite] at hri
      repeat' (split at hri)
      all_goals simp at hri
    | _ => simp [retI] at hri
  have h0 : WR b (fun k => s.heap.size + k) (dC, dI) tc (fun q : Nat => s.heap.size ≤ q) [] s.heap := ⟨fun k q h => by simp [cW] at h, ⟨fun i j p q h => by simp [cW] at h, fun k q h => by simp [cW] at h⟩, fun j => by simp⟩
  exact body_sound l (L, xs) b (fun k => s.heap.size + k) (dC, dI) tc n p e room_1 s m _ below meth c _ (fun q : Nat => s.heap.size ≤ q) kN (some (.int 1)) w1 w1.length (tot w1) (Nat.le_refl _) C hend hw.1 hw.2 0 _ [] [] s.heap [] ls 0 0 hev (by simp) (by simp [tot]) h0 va_S.rf hLk
