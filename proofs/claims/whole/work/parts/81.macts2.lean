/-! the reference's acts, as functions -/
theorem old_m {ag ti : Nat → Int32} (hs : STc ag ti) {ag' : Nat → Int32} (h : ∀ i, i < 8 → ag' i = ag i) {s : Int32} : oldM ag' s 8 (-6) = oldA ag s := old_eq hs.1 h
theorem m_why0 {X : Scr} {w : AW} {j t : Nat} {ag le ti : Nat → Int32} {d : DS} (h0 : OK w) (h : hM w ag le ti d) (hj : j < 8) : Z X 122 0 [.ref 64, .int 0, .int (nI j), .int (nI t)] [] w = some (some (.int (whyA ag ti d 0 j t)), w) := by
  rw [x_mwhy0 h0 hj, why_0, h.2.1, h.2.2.1]
  unfold whyLoan whyLend
  rw [(h.1 j hj).2.2.2]
  by_cases c1 : bq d.2.1 j = true
  · by_cases c2 : bq d.2.1 t = true
    · rw [if_pos c1, if_pos c2, if_pos (show bq d.2.1 j = true ∧ bq d.2.1 t = true from ⟨c1, c2⟩)]
    · rw [if_pos c1, if_neg c2, if_neg (fun q => c2 q.2)]
  · rw [if_neg c1, if_neg (fun q => c1 q.1)]
theorem m_why1 {X : Scr} {w : AW} {j t : Nat} {x y : Int32} {ag le ti : Nat → Int32} {d : DS} (h0 : OK w) (h : hM w ag le ti d) (hx : x = 1 ∨ x = 3) : Z X 122 0 [.ref 64, .int x, .int (nI j), .int y] [] w = some (some (.int (whyA ag ti d 1 j t)), w) := by
  rw [x_mwhy1 h0 hx, why_1, h.2.1]
theorem m_why2 {X : Scr} {w : AW} {j t : Nat} {y : Int32} {ag le ti : Nat → Int32} {d : DS} (h0 : OK w) (h : hM w ag le ti d) (di : DI d) (hj : j < 8) : Z X 122 0 [.ref 64, .int 2, .int (nI j), .int y] [] w = some (some (.int (whyA ag ti d 2 j t)), w) := by
  rw [x_mwhy2 h0 hj, why_2, h.2.1, (h.1 j hj).2.1]
  obtain ⟨n, hn, e⟩ := di.1 j hj
  have := lt99_k n (by omega)
  rw [← e] at this
  by_cases c1 : bq d.2.1 j = true
  · rw [if_pos c1, if_pos c1]
    by_cases c2 : d.1 j < 99
    · rw [if_pos c2, if_neg (fun q => this.mpr q c2)]
    · rw [if_neg c2, if_pos (this.mp c2)]
  · rw [if_neg c1, if_neg c1]
theorem m_why4 {X : Scr} {w : AW} {j t : Nat} {x y : Int32} {ag le ti : Nat → Int32} {d : DS} (h0 : OK w) (h : hM w ag le ti d) (di : DI d) (hs : STc ag ti) : Z X 122 0 [.ref 64, .int 4, .int x, .int y] [] w = some (some (.int (whyA ag ti d 4 j t)), w) := by
  rw [x_mwhy4 h0, why_4, h.2.1, h.2.2.1, old_m hs (fun i hi => (h.1 i hi).1)]
  have := old_z hs di.2.1
  by_cases c : oldA ag d.2.1 = -6 ∨ oldA ag d.2.1 = d.2.2.1
  · rw [if_pos c, if_pos (c.elim (fun q => Or.inl (this.mp q)) (fun q => Or.inr q.symm))]
  · rw [if_neg c, if_neg (fun q => c (q.elim (fun z => Or.inl (this.mpr z)) (fun z => Or.inr z.symm)))]
theorem m_h0 {X : Scr} {w : AW} {j t : Nat} {x : Int32} {ag le ti : Nat → Int32} {d : DS} (h0 : OK w) (h : hM w ag le ti d) : ∃ w', Z X 126 0 [.ref 64, .int 0, .int x, .int (nI t)] [] w = some (none, w') ∧ OK w' ∧ hM w' ag le ti (doA ag ti d 0 j t) ∧ FM w w' :=
  ⟨_, x_mhap0 h0, ok_f h0 (by decide), hM_5 h0 h, fm_f (by decide)⟩
theorem m_h2 {X : Scr} {w : AW} {j t : Nat} {y : Int32} {ag le ti : Nat → Int32} {d : DS} (h0 : OK w) (h : hM w ag le ti d) (di : DI d) (hj : j < 8) : ∃ w', Z X 126 0 [.ref 64, .int 2, .int (nI j), .int y] [] w = some (none, w') ∧ OK w' ∧ hM w' ag le ti (doA ag ti d 2 j t) ∧ FM w w' := by
  have hx := x_mhap2 (X := X) (t := y) h0 hj
  obtain ⟨n, hn, e⟩ := di.1 j hj
  have hr := (rst_k n (by omega)).1
  rw [(h.1 j hj).2.1, e, ← hr, ← e] at hx
  exact ⟨_, hx, ok_a h0, hM_b h0 h, fm_a⟩
theorem m_h3 {X : Scr} {w : AW} {j t : Nat} {y : Int32} {ag le ti : Nat → Int32} {d : DS} (h0 : OK w) (h : hM w ag le ti d) (di : DI d) (hs : STc ag ti) (hj : j < 8) : ∃ w', Z X 126 0 [.ref 64, .int 3, .int (nI j), .int y] [] w = some (none, w') ∧ OK w' ∧ hM w' ag le ti (doA ag ti d 3 j t) ∧ FM w w' := by
  have hx := x_mhap3 (X := X) (t := y) h0 hj
  have hh : heirM (aget w 65) (aget w 68) (dieL d.2.1 j) j = heirA ag ti (dieL d.2.1 j) j := by
    unfold heirM heirA
    rw [old_m hs (fun i hi => (h.1 i hi).1), old_m hs (fun i hi => (h.1 i hi).1), (h.1 j hj).2.2.2]
    have := old_z hs (rng_and (die_r di.2.1 hj) (hs.2 j hj))
    by_cases c : dieL d.2.1 j &&& ti j = 0
    · rw [if_pos c, if_pos (this.mpr c)]
    · rw [if_neg c, if_neg (fun q => c (this.mp q))]
  rw [h.2.1, h.2.2.1, hh] at hx
  rw [do_3]
  by_cases c2 : d.2.2.1 = nI j
  · rw [if_pos c2] at hx ⊢
    exact ⟨_, hx, ok_f (ok_f h0 (by decide)) (by decide), hM_5 (ok_f h0 (by decide)) (hM_0 h0 h), fm_tr (fm_f (by decide)) (fm_f (by decide))⟩
  · rw [if_neg c2] at hx ⊢
    exact ⟨_, hx, ok_f h0 (by decide), hM_0 h0 h, fm_f (by decide)⟩
theorem m_h4 {X : Scr} {w : AW} {j t : Nat} {x y : Int32} {ag le ti : Nat → Int32} {d : DS} (h0 : OK w) (h : hM w ag le ti d) (hs : STc ag ti) : ∃ w', Z X 126 0 [.ref 64, .int 4, .int x, .int y] [] w = some (none, w') ∧ OK w' ∧ hM w' ag le ti (doA ag ti d 4 j t) ∧ FM w w' := by
  have hx := x_mhap4 (X := X) (j := x) (t := y) h0
  rw [h.2.1, old_m hs (fun i hi => (h.1 i hi).1)] at hx
  exact ⟨_, hx, ok_f h0 (by decide), hM_5 h0 h, fm_f (by decide)⟩
theorem m_say {X : Scr} {w : AW} {j t : Nat} {ag le ti : Nat → Int32} {d : DS} (h0 : OK w) (h : hM w ag le ti d) (di : DI d) (hj : j < 8) : ∃ w', Z X 125 0 [.ref 64, .int (nI j), .int (nI t)] [] w = some (none, w') ∧ OK w' ∧ hM w' ag le ti (sayA le d j t) ∧ FM w w' := by
  have hx := x_msay (X := X) (t := t) h0 hj
  obtain ⟨q1, q2, q3, q4⟩ := h.1 j hj
  obtain ⟨n, hn, e⟩ := di.1 j hj
  have hb : balM (d.1 j) = bal (d.1 j) := by rw [e, (bal_n n (by omega)).1, (bal_n n (by omega)).2.1]
  rw [h.2.2.1, q2, q3, h.2.2.2, hb] at hx
  unfold sayA
  by_cases c : d.2.2.1 = nI j ∧ bq (le j) t = true
  · rw [if_pos c] at hx ⊢
    have ok6 : OK (fset w 64 6 (.int (d.2.2.2 + d.1 j))) := ok_f h0 (by decide)
    have hb := hM_b (j := j) (x := bal (d.1 j)) ok6 (hM_6 (x := d.2.2.2 + d.1 j) h0 h)
    rw [ag_f] at hb
    exact ⟨_, hx, ok_a ok6, hb, fm_tr (fm_f (by decide)) fm_a⟩
  · rw [if_neg c] at hx ⊢
    exact ⟨_, hx, h0, h, fm_rf⟩
theorem why_vals {ag ti : Nat → Int32} {d : DS} {k j t : Nat} : whyA ag ti d k j t = 0 ∨ ∃ m, m < 6 ∧ 1 ≤ m ∧ whyA ag ti d k j t = nI m := by
  have z : ∀ y : Int32, (y = 0 ∨ y = 1 ∨ y = 2 ∨ y = 3 ∨ y = 4 ∨ y = 5) → y = 0 ∨ ∃ m, m < 6 ∧ 1 ≤ m ∧ y = nI m := by
    intro y hy
    rcases hy with rfl | rfl | rfl | rfl | rfl | rfl
    · exact Or.inl rfl
    · exact Or.inr ⟨1, by decide, by decide, rfl⟩
    · exact Or.inr ⟨2, by decide, by decide, rfl⟩
    · exact Or.inr ⟨3, by decide, by decide, rfl⟩
    · exact Or.inr ⟨4, by decide, by decide, rfl⟩
    · exact Or.inr ⟨5, by decide, by decide, rfl⟩
  refine z _ ?_
  unfold whyA whyLend
  repeat' split
  all_goals simp
theorem DI_go {g ag le ti : Nat → Int32} {c p : Nat} {d : DS} (hs : STc ag ti) (wf : wfA g c p) (di : DI d) (hw : whyP g ag ti d p = 0) : DI (goP g c ag le ti d p) := by
  obtain ⟨hp, wf⟩ := wf
  unfold whyP at hw
  unfold goP
  rcases wf with e33 | ⟨nm, hp1, e⟩
  · have k4 : aK g p = 4 := by unfold aK; rw [if_pos e33]
    rw [k4] at hw ⊢
    rw [if_neg (show ¬ 4 = 1 by decide)]
    have hw' : whyA ag ti d 4 0 0 = 0 := hw
    have hd : DI (doA ag ti d 4 0 0) := DI_do hs di (by decide) (by decide) hw'
    exact hd
  · have n33 := nm_33 nm
    have m2 : aJ g p < 8 := (nm_n nm).2
    rcases e with e | e | ⟨e, hp2, nt⟩ | ⟨e, n, n1, n2, n3, n4⟩
    · have k2 : aK g p = 2 := by unfold aK; rw [if_neg n33, e, if_neg (by decide), if_pos rfl]
      rw [k2] at hw ⊢
      rw [if_neg (show ¬ 2 = 1 by decide)]
      exact DI_do (t := 0) hs di m2 (by decide) hw
    · have k3 : aK g p = 3 := by unfold aK; rw [if_neg n33, e, if_neg (by decide), if_neg (by decide), if_pos rfl]
      rw [k3] at hw ⊢
      rw [if_neg (show ¬ 3 = 1 by decide)]
      exact DI_do (t := 0) hs di m2 (by decide) hw
    · have k0 : aK g p = 0 := by unfold aK; rw [if_neg n33, if_pos e]
      have t2 : aT g p < 8 := (nm_n nt).2
      rw [k0] at hw ⊢
      rw [if_neg (show ¬ 0 = 1 by decide)]
      exact DI_do hs di m2 t2 hw
    · have k1 : aK g p = 1 := by unfold aK; rw [if_neg n33, e, if_neg (by decide), if_neg (by decide), if_neg (by decide)]
      rw [k1, if_pos rfl]
      exact DI_sayN m2 _ _ _ di
