/-! all rows passed -/
def sclY (w : AW) (k q : Nat) : Int32 := if fI w 64 36 = 0 then aget w 87 q else fI w 64 k
def PS (w0 w : AW) (B : Nat) (D : List (Nat × Nat)) (p : Nat) : Prop := OK w ∧ fI w 64 35 = nI (B + p) ∧ (∀ r ∈ D, fI w 64 r.1 = sclY w0 r.1 (B + r.2) ∧ aget w 87 (B + r.2) = sclY w0 r.1 (B + r.2)) ∧ (∀ f k, ¬ (64 = f ∧ 35 = k) → (∀ r ∈ D, ¬ (64 = f ∧ r.1 = k)) → fI w f k = fI w0 f k) ∧ (∀ t, t < B ∨ B + p ≤ t → aget w 87 t = aget w0 87 t) ∧ (∀ c, ¬ c = 87 → aget w c = aget w0 c) ∧ (fI w0 64 36 = 0 → aget w 87 = aget w0 87) ∧ (¬ fI w0 64 36 = 0 → ∀ r ∈ D, fI w 64 r.1 = fI w0 64 r.1)
def psW (w : AW) (q k : Nat) : AW := fset (pw1 w q (fI w 64 k)) 64 k (.int (pv w q (fI w 64 k)))
theorem ps_0 {w : AW} {B : Nat} (h0 : OK w) (hk : fI w 64 35 = nI B) : PS w w B [] 0 :=
  ⟨h0, hk, fun r hr => (by cases hr), fun _ _ _ _ => rfl, fun _ _ => rfl, fun _ _ => rfl, fun _ => rfl, fun _ r hr => (by cases hr)⟩
theorem ps_step {w0 w : AW} {B p k : Nat} {D : List (Nat × Nat)} (h : PS w0 w B D p) (hi : (64, k) ∈ intT) (h35 : ¬ 35 = k) (h36 : ¬ 36 = k) (hD : ∀ r ∈ D, ¬ r.1 = k ∧ r.2 < p ∧ ¬ r.1 = 35 ∧ ¬ r.1 = 36) : PS w0 (psW w (B + p) k) B ((k, p) :: D) (p + 1) := by
  obtain ⟨h0, hk, hr, hf, h87, hc, hz, hy⟩ := h
  have okp : OK (pw1 w (B + p) (fI w 64 k)) := pw1_ok h0
  have e36 : fI w 64 36 = fI w0 64 36 := hf 64 36 (by decide) (fun r q z => (hD r q).2.2.2 z.2)
  have ek : fI w 64 k = fI w0 64 k := hf 64 k (fun z => h35 z.2) (fun r q z => (hD r q).1 z.2)
  have eY : pv w (B + p) (fI w 64 k) = sclY w0 k (B + p) := by
    unfold pv sclY
    rw [e36, h87 _ (Or.inr (Nat.le_refl _)), ek]
  have g87 : aget (psW w (B + p) k) 87 = upd (aget w 87) (B + p) (sclY w0 k (B + p)) := by
    unfold psW
    rw [eY, ag_f]
    unfold pw1
    rw [ag_f, ag_s (oa87 h0), eY]
  have gk : fI (psW w (B + p) k) 64 k = sclY w0 k (B + p) := by
    unfold psW
    rw [fi_s (fokk_int okp hi), eY]
  have gf : ∀ f x, ¬ (64 = f ∧ 35 = x) → ¬ (64 = f ∧ k = x) → fI (psW w (B + p) k) f x = fI w f x := fun f x z1 z2 => by
    unfold psW
    rw [fi_n z2]
    unfold pw1
    rw [fi_n z1, fi_a]
  refine ⟨ok_f okp hi, ?_, fun r q => ?_, fun f x z1 z2 => ?_, fun t ht => ?_, fun c z => ?_, fun z => ?_, fun z r q => ?_⟩
  · unfold psW
    rw [fi_n (fun z => h35 z.2.symm)]
    unfold pw1
    rw [fi_s (by rw [fk_a]; exact ok64_35 h0), Nat.add_assoc]
  · rcases List.mem_cons.mp q with rfl | q
    · refine ⟨gk, ?_⟩
      rw [g87, updI, if_pos rfl]
    · obtain ⟨d1, d2, d3, d4⟩ := hD r q
      obtain ⟨q1, q2⟩ := hr r q
      refine ⟨?_, ?_⟩
      · rw [gf _ _ (fun z => d3 z.2.symm) (fun z => d1 z.2.symm)]; exact q1
      · rw [g87, updI, if_neg (by omega)]; exact q2
  · have z3 : ¬ (64 = f ∧ k = x) := z2 (k, p) (List.mem_cons_self)
    rw [gf f x z1 z3]
    exact hf f x z1 (fun r q => z2 r (List.mem_cons_of_mem _ q))
  · rw [g87, updI, if_neg (by omega)]
    exact h87 t (by omega)
  · unfold psW pw1
    rw [ag_f, ag_f, ag_n (fun q => z q.symm)]
    exact hc c z
  · funext t
    rw [g87, updI]
    by_cases q : t = B + p
    · rw [if_pos q, q]
      unfold sclY
      rw [if_pos z]
    · rw [if_neg q, hz z]
  · rcases List.mem_cons.mp q with rfl | q
    · show fI (psW w (B + p) k) 64 k = fI w0 64 k
      rw [gk]
      unfold sclY
      rw [if_neg z]
    · obtain ⟨d1, d2, d3, d4⟩ := hD r q
      rw [gf _ _ (fun z => d3 z.2.symm) (fun z => d1 z.2.symm)]
      exact hy z r q
def PR (w0 w : AW) (B : Nat) (D : List (Nat × Nat × Nat)) (p : Nat) : Prop := OK w ∧ fI w 64 35 = nI (B + p) ∧ (∀ f k, ¬ (64 = f ∧ 35 = k) → fI w f k = fI w0 f k) ∧ (∀ r ∈ D, ∀ j, j < r.2.2 → aget w r.1 j = rowY w0 r.1 (B + r.2.1) j ∧ aget w 87 (B + r.2.1 + j) = rowY w0 r.1 (B + r.2.1) j) ∧ (∀ t, t < B + 4 ∨ B + p ≤ t → aget w 87 t = aget w0 87 t) ∧ (∀ c, ¬ c = 87 → (∀ r ∈ D, ¬ c = r.1) → aget w c = aget w0 c) ∧ (fI w0 64 36 = 0 → aget w 87 = aget w0 87) ∧ (¬ fI w0 64 36 = 0 → ∀ r ∈ D, aget w r.1 = aget w0 r.1)
theorem pr_0 {w : AW} {B : Nat} (h0 : OK w) (hk : fI w 64 35 = nI (B + 4)) : PR w w B [] 4 :=
  ⟨h0, hk, fun _ _ _ => rfl, fun r hr => (by cases hr), fun _ _ => rfl, fun _ _ _ => rfl, fun _ => rfl, fun _ r hr => (by cases hr)⟩
theorem pr_step {X : Scr} {w0 w : AW} {B p a n : Nat} {D : List (Nat × Nat × Nat)} (h : PR w0 w B D p) (ha : ¬ a = 87) (hd : ∀ r ∈ D, ¬ a = r.1 ∧ r.2.1 + r.2.2 ≤ p ∧ ¬ r.1 = 87) (hp : 4 ≤ p) (hn : n < 1000) (hq : B + p + n ≤ 180) (hao : ∀ w, OK w → aok w a = true) (hal : ∀ w, OK w → alen w a = n) : ∃ w', Z X 163 0 [.ref 64, .ref a, .int (nI n), uns] [] w = some (none, w') ∧ PR w0 w' B ((a, p, n) :: D) (p + n) := by
  obtain ⟨h0, hk, hf, hD, h87, hc, hz, hy⟩ := h
  obtain ⟨w', r1, r2, r3, r4, r5, r6, r7, r8⟩ := x_prow (X := X) h0 ha (Nat.le_refl n) hn hq hk (hao w h0) (hal w h0)
  have ea : aget w a = aget w0 a := hc a ha (fun r hr => (hd r hr).1)
  have e : ∀ j, rowY w a (B + p) j = rowY w0 a (B + p) j := fun j => by
    unfold rowY
    rw [hf 64 36 (by decide), h87 _ (Or.inr (by omega)), ea]
  refine ⟨w', r1, r2, by rw [r3, Nat.add_assoc], fun f k z => (r4 f k z).trans (hf f k z), fun r hr j hj => ?_, fun t ht => ?_, fun c z1 z2 => ?_, fun z => ?_, fun z r hr => ?_⟩
  · rcases List.mem_cons.mp hr with rfl | hr
    · have := r5 j hj
      rw [e] at this
      exact this
    · obtain ⟨d1, d2, d3⟩ := hd r hr
      obtain ⟨q1, q2⟩ := hD r hr j hj
      refine ⟨?_, ?_⟩
      · rw [r8 _ (fun z => d1 z.symm) d3]; exact q1
      · rw [r7 _ (Or.inl (by omega))]; exact q2
  · rw [r7 t (by omega)]
    exact h87 t (by omega)
  · rw [r8 c (z2 _ List.mem_cons_self) z1]
    exact hc c z1 (fun r hr => z2 r (List.mem_cons_of_mem _ hr))
  · rw [← hz z]
    funext t
    by_cases q : t < B + p ∨ B + p + n ≤ t
    · exact r7 t q
    · have := (r5 (t - (B + p)) (by omega)).2
      rw [show B + p + (t - (B + p)) = t by omega] at this
      rw [this]
      unfold rowY
      rw [hf 64 36 (by decide), if_pos z, show B + p + (t - (B + p)) = t by omega]
  · rcases List.mem_cons.mp hr with rfl | hr
    · show aget w' a = aget w0 a
      rw [← ea]
      funext j
      by_cases q : n ≤ j
      · exact r6 j q
      · rw [(r5 j (by omega)).1]
        unfold rowY
        rw [hf 64 36 (by decide), if_neg z]
    · obtain ⟨d1, d2, d3⟩ := hd r hr
      rw [r8 _ (fun z => d1 z.symm) d3]
      exact hy z r hr
