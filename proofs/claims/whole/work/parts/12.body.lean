/-! Calls, and the whole -/
section BDY
variable {p : Program} {l : Launch} {e : Env} {R : Room} {s : State} {m : MethodId} {args : Array Value} {below : List Frame} {meth : Method} {c : Code} {Q : State → Prop} {X : Scr} {b : Nat} {ad : Nat → Nat} {D : va_G} {tc : FieldType → ClassId} {A : Nat → Prop} {mi : Nat}
theorem fA_in {w : AW} {H : Heap} {locs : List Loc} (hW : WR b ad D tc A w H) (hS : va_S A s.heap H locs) (hA : ∀ q, s.heap.size ≤ q → A q) : ∀ q, fA tc b ad w q → A q := by
  intro q h
  have h0 : ad w.length = H.size := hW.2.2 0
  rcases h with ⟨k, e, h⟩ | h
  · exact hW.2.1.2 k (q, e) h
  · exact hA q (Nat.le_trans hS.1 (by omega))
theorem run_go {pc c0 s0 mc ms : Nat} {ls : Array Slot} {st0 : List Value} {rest : List Value} {w w' : AW} {r : Option Value} {H : Heap} {locs : List Loc} {av : Array Value} (hr : va_Run p l e R s m args below meth c H locs c0 s0 mc ms (F0 m pc ls st0) (rest.map (cv b ad)) (QcE b ad D tc w r w' av) (fA tc b ad w)) (hW : WR b ad D tc A w H) (hS : va_S A s.heap H locs) (hA : ∀ q, s.heap.size ≤ q → A q)
    (kk : ∀ (H' : Heap) (locs' : List Loc), WR b ad D tc A w' H' → va_S A s.heap H' locs' → W p l e R s m args below meth c H' locs' (c0 + mc) (s0 + ms) Q (F0 m (pc + 3) ls ((r.toList ++ rest).map (cv b ad)))) : W p l e R s m args below meth c H locs c0 s0 Q (F0 m pc ls st0) := by
  intro T hT X
  obtain ⟨v, st₀, t, T', L, h0, X', hL, e1, e2, ⟨hv, hW', hz, hk⟩, st⟩ := hr T hT X
  have hv' : v = r.map (cv b ad) := by cases hv; rfl
  subst hv'
  rw [h0] at hz hk
  have hf := fA_in hW hS hA
  obtain ⟨t2, a1, b1⟩ := kk T'.heap (locs ++ L) (by rw [e1]; exact ⟨hW'.1, hW'.2.1.weaken (fun _ _ _ h => hf _ h), hW'.2.2⟩) ⟨Nat.le_trans hS.1 (by rw [e1]; exact hz), fun q g1 g2 => by rw [e1, hk q (Nat.lt_of_lt_of_le g1 hS.1) (fun z => g2 (hf q z))]; exact hS.2.1 q g1 g2, fun q hq => by
      rcases List.mem_append.mp hq with h | h
      · exact hS.2.2 q h
      · exact hf _ (hL q h)⟩ T' rfl X'
  refine ⟨t2, st t2 ?_, b1⟩
  have hst : (r.map (cv b ad)).toList ++ rest.map (cv b ad) = (r.toList ++ rest).map (cv b ad) := by cases r <;> simp
  rw [hst]
  exact a1
theorem pcE_at {w : AW} {H : Heap} {locs : List Loc} {As : List Value} (C : Cx p R s m args meth c X b D tc A mi) (hW : WR b ad D tc A w H) (hS : va_S A s.heap H locs) : ∀ U : State, U.heap = H → s.WarmedH U.vm → PcE X b ad D tc w As ((As.map (cv b ad)).toArray) U := by
  obtain ⟨hx, hb, hml, hts, hown, hini, hNW, hK, hX, hbl, hbA, hA, hfr, hlo⟩ := C
  intro U hU hw
  refine ⟨rfl, by rw [hU]; exact hW.1, hW.2.1.weaken (fun _ _ _ _ => trivial), va_K.moved hw.alike hK, fun a i x h hin => va_Nw.warmM hw (hNW a i x h hin), by rw [hU]; exact hW.2.2, ?_, by rw [hU]; exact Nat.lt_of_lt_of_le hbl hS.1, fun k hk hkb => hbA ?_⟩
  · rw [hU]
    exact (hX.kept (hS.2.1 b hbl hbA)).moved hw.alike
  · have h1 : (cW tc b ad w)[k]? = some (ad k, cE tc b ad w[k]) := cW_get (List.getElem?_eq_getElem hk)
    have := hW.2.1.2 k _ h1
    rw [← hkb]
    exact this
theorem call_sound {pc c0 s0 : Nat} {eo : kO} {S S1 As : List Value} {y : Nat} {w w2 w3 : AW} {r : Option Value} {H : Heap} {locs : List Loc} {ls : Array Slot} (C : Cx p R s m args meth c X b D tc A mi) (hm : mi ≤ kN) (hk : kI mi pc = some eo) (hc : callE eo S w = some (some (y, As), S1, w2)) (hW : WR b ad D tc A w H) (hS : va_S A s.heap H locs) (hls : ls.size = (kM mi).2.2.1)
    (hcon : y < kN → (locs2 As).length ≤ (kM y).2.2.1 → Con l X b ad D tc y As w2 r w3) (hroom : c0 + (w3.length - w2.length) ≤ R.cells ∧ s0 + (tot w3 - tot w2) ≤ R.slots)
    (kk : w2 = w → ∀ (H' : Heap) (locs' : List Loc), WR b ad D tc A w3 H' → va_S A s.heap H' locs' → W p l e R s m args below meth c H' locs' (c0 + (w3.length - w2.length)) (s0 + (tot w3 - tot w2)) Q (F0 m (pc + 3) ls ((r.toList ++ S1).map (cv b ad)))) : W p l e R s m args below meth c H locs c0 s0 Q (F0 m pc ls (S.map (cv b ad))) := by
  obtain ⟨hd, hl, hp⟩ := eOK_dec (kI_ok hm hk)
  have hpc := fun As => pcE_at (As := As) C hW hS
  obtain ⟨hx, hb, hml, hts, hown, hini, hNW, hK, hX, hbl, hbA, hA, hfr, hlo⟩ := C
  obtain ⟨i, len, a, k, pp, v⟩ := eo
  dsimp only at hd hl
  have hfix : CallFix p m c (kM mi).2.1 (kM mi).2.2.1 s args kWs (kOwn mi) := ⟨hx, hb, hml, hown, hts⟩
  have hsub : ∀ w ∈ wsM k, mOK k = true → w ∈ kWs := fun w hw hmo => by
    simp only [mOK, Bool.and_eq_true, decide_eq_true_eq] at hmo
    rcases List.mem_cons.mp hw with rfl | h
    · exact wAt_in hmo.1.1.1.1.1
    · exact h
  have hroomOK : rmOK mi k = true → (kR k).1 + 1 ≤ R.frames ∧ 8 + ((kM k).2.2.1 + 11) + (kR k).2.1 ≤ R.locals := fun h => by
    simp only [rmOK, Bool.and_eq_true] at h
    have h1 := Nat.le_of_ble_eq_true h.1
    have h2 := Nat.le_of_ble_eq_true h.2
    omega
  cases i with
  | invokevirtual idx =>
    cases len_of hl (by simp [ilen])
    simp only [callE, Bool.cond_eq_ite] at hc
    split at hc
    · rename_i As' o S' htk
      split at hc
      · rename_i hcond
        simp only [Bool.and_eq_true] at hcond
        obtain ⟨⟨⟨h1, h2⟩, h3⟩, h4⟩ := hcond
        simp only [Option.some.injEq, Prod.mk.injEq] at hc
        obtain ⟨⟨rfl, rfl⟩, rfl, rfl⟩ := hc
        simp only [pOK, Bool.and_eq_true] at hp
        obtain ⟨⟨⟨hp1, hp2⟩, hp3⟩, hp4⟩ := hp
        have hyl : k < kN := by simpa using hp2
        have hmo' := mOK_lo hyl
        have hmo := hmo'
        simp only [mOK, Nat.eq_of_beq_eq_true hp1, Bool.and_eq_true, decide_eq_true_eq] at hmo
        obtain ⟨⟨⟨⟨⟨hm1, hm2⟩, hm3⟩, hm4⟩, hm5⟩, hm6⟩ := hmo
        obtain ⟨ht1, ht2⟩ := tk_spec htk
        have hcn := hcon hyl (Nat.le_of_ble_eq_true h3)
        obtain ⟨fs, hfs⟩ := cok_spec h2
        have hrecv : ∃ cellB : Cell, H[ad o]? = some cellB ∧ cellB.vm.isStatics = false ∧ s.vm.findClass (kM k).1.cls = some cellB.cls := by
          cases hq : vwCl[(kR k).2.2.2.1]? with
          | none => rw [hq] at hm6; simp at hm6
          | some q =>
            rw [hq] at hm6
            simp only [decide_eq_true_eq] at hm6
            rw [← hm6]
            exact va_recv hK hW.1 hq (cW_get hfs)
        have hgood : GoodIn kWs (wsV (kOwn mi) idx (kM k).1.cls (kM k).1 (wsM k)) := good_kWs fun w hw => by
          unfold wsV at hw
          rcases List.mem_append.mp hw with h | h
          · simp only [List.mem_cons, List.not_mem_nil, or_false] at h
            rcases h with rfl | rfl | rfl | rfl
            · exact wAt_in hp3
            · exact wAt_in hm5.1
            · exact wAt_in hm5.2
            · exact wAt_in hm2
          · exact hsub w h hmo'
        subst ht2
        have hrun := va_runV (e := e) (below := below) (meth := meth) (locs := locs) (g := F0 m pc ls (((As'.reverse ++ .ref o :: S').map (cv b ad)))) (As := As'.map (cv b ad)) (rest := S'.map (cv b ad)) (b := ad o) hfix hcn (cwV (kR k).2.2.1 hts hgood rfl rfl rfl ⟨rfl, hm3⟩ (hroomOK hp4)) ⟨blindE, hrecv, fun U hU hw => hpc (.ref o :: As') U hU hw⟩ rfl (by rw [List.length_map]; exact ht1) hls (by simp [cv]) (lv_room (Nat.le_trans (cat_sum S') (by have := Nat.le_of_ble_eq_true h4; omega))) hd hroom
        exact run_go hrun hW hS hA (kk rfl)
      · cases hc
    · cases hc
  | invokestatic idx =>
    cases len_of hl (by simp [ilen])
    simp only [callE, Bool.cond_eq_ite] at hc
    split at hc
    · split at hc
      · split at hc
        · simp at hc
        · cases hc
      · cases hc
    · rename_i h7
      split at hc
      · split at hc
        · split at hc
          · simp at hc
          · cases hc
        · cases hc
      · rename_i h8
        split at hc
        · split at hc
          · split at hc
            · simp at hc
            · cases hc
          · cases hc
        · rename_i h9
          split at hc
          · rename_i As' S' htk
            split at hc
            · rename_i hcond
              simp only [Bool.and_eq_true] at hcond
              obtain ⟨⟨h1, h3⟩, h4⟩ := hcond
              simp only [Option.some.injEq, Prod.mk.injEq] at hc
              obtain ⟨⟨rfl, rfl⟩, rfl, rfl⟩ := hc
              simp only [pOK, Bool.cond_eq_ite, h7, h8, h9, Bool.and_eq_true, if_false, Bool.false_eq_true] at hp
              obtain ⟨⟨⟨hp1, hp2⟩, hp3⟩, hp4⟩ := hp
              have hyl : k < kN := by simpa using hp2
              have hmo' := mOK_lo hyl
              have hmo := hmo'
              simp only [mOK, Nat.eq_of_beq_eq_true hp1, Bool.and_eq_true, decide_eq_true_eq] at hmo
              obtain ⟨⟨⟨⟨⟨hm1, hm2⟩, hm3⟩, hm4⟩, hm5⟩, hm6⟩ := hmo
              obtain ⟨ht1, ht2⟩ := tk_spec htk
              have hcn := hcon hyl (Nat.le_of_ble_eq_true h3)
              subst ht2
              have hroom4 : 2 * (F0 m pc ls ((As'.reverse ++ S').map (cv b ad))).monitorRoom + ((S'.map (cv b ad)).map fun v => v.category).sum ≤ 8 := lv_room (Nat.le_trans (cat_sum S') (by have := Nat.le_of_ble_eq_true h4; omega))
              split at hp3
              · have hgood : GoodIn kWs (wsS (kM k).1.cls idx (kM k).1 (wsM k)) ∨ True := Or.inr trivial
                have hcb : CallB R s args (kOwn mi) idx (kM k).1 (kM k).2.1 (kM k).2.2.1 (kM k).2.2.2 (wsM k) { frames := (kR k).1, cells := w3.length - w.length, slots := tot w3 - tot w, locals := (kR k).2.1 } (w3.length - w.length) (tot w3 - tot w) (kR k).2.2.1 :=
                  callB_of (Ts := kWs) (kR k).2.2.1 hts (good_kWs fun w h => hsub w h hmo') rfl rfl rfl (hts _ (wAt_in hm2)) (hts _ (wAt_in hp3)) hm3 (hroomOK hp4)
                have hrun := va_runS (e := e) (below := below) (meth := meth) (locs := locs) (g := F0 m pc ls ((As'.reverse ++ S').map (cv b ad))) (As := As'.map (cv b ad)) (rest := S'.map (cv b ad)) hfix hcn ⟨hcb, hts _ (wAt_in hm5)⟩ ⟨blindE, fun U hU hw => hpc As' U hU hw⟩ rfl (by rw [List.length_map]; exact ht1) hls (by simp) hroom4 hd hroom
                exact run_go hrun hW hS hA (kk rfl)
              · have hrun := va_runSN (e := e) (below := below) (meth := meth) (locs := locs) (g := F0 m pc ls ((As'.reverse ++ S').map (cv b ad))) (As := As'.map (cv b ad)) (rest := S'.map (cv b ad)) hfix hcn ⟨va_cnB (kR k).2.2.1 hts (good_kWs fun w h => hsub w h hmo') rfl rfl rfl (hNW _ _ _ _ (wNt_in hp3)) (hts _ (wAt_in hm2)) hm3 (hroomOK hp4), hts _ (wAt_in hm5), trivial⟩ ⟨blindE, fun U hU hw => hpc As' U hU hw⟩ rfl (by rw [List.length_map]; exact ht1) hls (by simp) hroom4 hd hroom
                exact run_go hrun hW hS hA (kk rfl)
            · cases hc
          · cases hc
  | invokespecial idx =>
    cases len_of hl (by simp [ilen])
    simp only [callE, Bool.cond_eq_ite] at hc
    split at hc
    · split at hc
      · split at hc
        · simp at hc
        · cases hc
      · cases hc
    · rename_i h6
      split at hc
      · rename_i As' o S' htk
        split at hc
        · rename_i hcond
          simp only [Bool.and_eq_true] at hcond
          obtain ⟨⟨h1, h3⟩, h4⟩ := hcond
          simp only [Option.some.injEq, Prod.mk.injEq] at hc
          obtain ⟨⟨rfl, rfl⟩, rfl, rfl⟩ := hc
          simp only [pOK, Bool.cond_eq_ite, h6, Bool.and_eq_true, if_false, Bool.false_eq_true] at hp
          obtain ⟨⟨⟨hp1, hp2⟩, hp3⟩, hp4⟩ := hp
          have hyl : k < kN := by simpa using hp2
          have hmo' := mOK_lo hyl
          have hmo := hmo'
          simp only [mOK, Nat.eq_of_beq_eq_true hp1, Bool.and_eq_true, decide_eq_true_eq] at hmo
          obtain ⟨⟨⟨⟨⟨hm1, hm2⟩, hm3⟩, hm4⟩, ⟨hm5, hm7⟩, hm8⟩, hm6⟩ := hmo
          obtain ⟨ht1, ht2⟩ := tk_spec htk
          have hcn := hcon hyl (Nat.le_of_ble_eq_true h3)
          have hws : wsM k = .code (kM k).1 (kM k).2.1 (kM k).2.2.1 none :: kWs := by rw [wsM, hm8]
          subst ht2
          have hroom4 : 2 * (F0 m pc ls ((As'.reverse ++ .ref o :: S').map (cv b ad))).monitorRoom + ((S'.map (cv b ad)).map fun v => v.category).sum ≤ 8 := lv_room (Nat.le_trans (cat_sum S') (by have := Nat.le_of_ble_eq_true h4; omega))
          split at hp3
          · have hrun := va_runI (e := e) (below := below) (meth := meth) (locs := locs) (g := F0 m pc ls ((As'.reverse ++ .ref o :: S').map (cv b ad))) (As := As'.map (cv b ad)) (rest := S'.map (cv b ad)) (b := ad o) hfix hcn (cwI (kR k).2.2.1 hts (good_kWs fun w h => hsub w h hmo') hws rfl rfl (hts _ (wAt_in hm2)) (hts _ (wAt_in hp3)) (hts _ (wAt_in hm5)) hm7 hm3 (hroomOK hp4)) ⟨blindE, fun U hU hw => hpc (.ref o :: As') U hU hw⟩ rfl (by rw [List.length_map]; exact ht1) hls (by simp [cv]) hroom4 hd hroom
            exact run_go hrun hW hS hA (kk rfl)
          · have hrun := va_runIN (e := e) (below := below) (meth := meth) (locs := locs) (g := F0 m pc ls ((As'.reverse ++ .ref o :: S').map (cv b ad))) (As := As'.map (cv b ad)) (rest := S'.map (cv b ad)) (b := ad o) hfix hcn ⟨va_cnB (kR k).2.2.1 hts (good_kWs fun w h => hsub w h hmo') hws rfl rfl (hNW _ _ _ _ (wNt_in hp3)) (hts _ (wAt_in hm2)) hm3 (hroomOK hp4), hm7, hts _ (wAt_in hm5)⟩ ⟨blindE, fun U hU hw => hpc (.ref o :: As') U hU hw⟩ rfl (by rw [List.length_map]; exact ht1) hls (by simp [cv]) hroom4 hd hroom
            exact run_go hrun hW hS hA (kk rfl)
        · cases hc
      · cases hc
  | _ => simp [callE] at hc
end BDY
