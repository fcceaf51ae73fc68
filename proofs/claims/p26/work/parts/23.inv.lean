/-! the invariant of the row, kept -/
section INV
variable {s : St} {nA nH nR : Nat} {v : Int32}
theorem sG_sR {g r j : Nat} {w : Int32} (hg : g < 9) : sG (sR s r j v) g w = sR (sG s g w) r j v := by
  funext k
  unfold sG sR upd
  by_cases h1 : k = g
  · rw [if_pos h1, if_neg (by omega), if_pos h1]
  · rw [if_neg h1]
    by_cases h2 : k = 59 + 12 * r + j
    · rw [if_pos h2, if_pos h2]
    · rw [if_neg h2, if_neg h2, if_neg h1]
theorem Rw.to {s' : St} {r : Nat} (h : Rw s r) (hs : ∀ j, j < 12 → rp s' r j = rp s r j) : Rw s' r := by
  unfold Rw at h ⊢
  rw [hs 3 (by decide), hs 4 (by decide), hs 5 (by decide), hs 6 (by decide), hs 7 (by decide), hs 9 (by decide), hs 10 (by decide), hs 11 (by decide)]
  exact h
theorem Iv.wG (h : Iv s nA nH nR) {g : Nat} (h4 : g ≠ 4) (h5 : g ≠ 5) (h6 : g ≠ 6) (hg : g < 9) : Iv (sG s g v) nA nH nR :=
  ⟨h.1.sG h4 h5 h6 hg, fun r hr => (h.2 r hr).to (fun _ _ => rp_sG hg)⟩
theorem Iv.wA (h : Iv s nA nH nR) {a j : Nat} (ha : a < 6) (hj : j < 3) : Iv (sA s a j v) nA nH nR :=
  ⟨h.1.sA ha hj, fun r hr => (h.2 r hr).to (fun _ _ => rp_sA ha hj)⟩
theorem Iv.wH (h : Iv s nA nH nR) {a j : Nat} (ha : a < 8) (hj : j < 4) : Iv (sH s a j v) nA nH nR :=
  ⟨h.1.sH ha hj, fun r hr => (h.2 r hr).to (fun _ _ => rp_sH ha hj)⟩
theorem Iv.wR (h : Iv s nA nH nR) {r j : Nat} (hr : r < 40) (h0 : j ≠ 0) (h1 : j ≠ 1) (hj : j < 12) (hw : r < nR → Rw (sR s r j v) r) : Iv (sR s r j v) nA nH nR := by
  refine ⟨h.1.sR hr h0 h1 hj, fun q hq => ?_⟩
  by_cases e : q = r
  · subst e; exact hw hq
  · exact (h.2 q hq).to (fun i hi => by rw [rp_sR hi hj, if_neg (fun x => e x.1)])
/-- the state is set -/
theorem Rw.w3 {r : Nat} (h : Rw s r) (hv : vp_in v 6) (c1 : ¬ v = 5 → rp s r 5 = -10009) (c2 : v = 0 ∨ v = 5 → rp s r 4 = 0 ∧ rp s r 6 = 0 ∧ rp s r 7 = 0 ∧ rp s r 9 = 0 ∧ rp s r 10 = 0 ∧ rp s r 11 = 0) (c3 : v = 1 ∨ v = 2 ∨ v = 3 → ¬ rp s r 4 = 0) : Rw (sR s r 3 v) r := by
  unfold Rw at h ⊢
  simp only [rp_sR (show 3 < 12 by decide) (show 3 < 12 by decide), rp_sR (show 4 < 12 by decide) (show 3 < 12 by decide), rp_sR (show 5 < 12 by decide) (show 3 < 12 by decide), rp_sR (show 6 < 12 by decide) (show 3 < 12 by decide), rp_sR (show 7 < 12 by decide) (show 3 < 12 by decide), rp_sR (show 9 < 12 by decide) (show 3 < 12 by decide), rp_sR (show 10 < 12 by decide) (show 3 < 12 by decide), rp_sR (show 11 < 12 by decide) (show 3 < 12 by decide), true_and, if_true, Nat.reduceEqDiff, if_false]
  exact ⟨⟨hv, h.1.2⟩, h.2.1, c1, c2, c3⟩
/-- a place that the invariant doesn't speak of -/
theorem Rw.w8 {r : Nat} (h : Rw s r) : Rw (sR s r 8 v) r := by
  unfold Rw at h ⊢
  simp only [rp_sR (show 3 < 12 by decide) (show 8 < 12 by decide), rp_sR (show 4 < 12 by decide) (show 8 < 12 by decide), rp_sR (show 5 < 12 by decide) (show 8 < 12 by decide), rp_sR (show 6 < 12 by decide) (show 8 < 12 by decide), rp_sR (show 7 < 12 by decide) (show 8 < 12 by decide), rp_sR (show 9 < 12 by decide) (show 8 < 12 by decide), rp_sR (show 10 < 12 by decide) (show 8 < 12 by decide), rp_sR (show 11 < 12 by decide) (show 8 < 12 by decide), true_and, Nat.reduceEqDiff, if_false]
  exact h
theorem Iv.give (h : Iv s nA nH nR) {a : Nat} (ha : a < 8) : Iv (giveS s a v) nA nH nR := h.wH ha (by decide)
theorem Iv.sha {r : Nat} {p : Int32} {i : Nat} (hi : i < nR) {x : St × Int32 × Int32} (h : Iv x.1 nA nH nR) : Iv (shaG r p i x).1 nA nH nR := by
  unfold shaG
  split
  · obtain ⟨a, ha, -, ht⟩ := vin (h.1.2.2.2 i hi).1 (by have := h.1.2.1.2; omega)
    dsimp only
    rw [ht]
    exact h.give (by have := h.1.2.1.2; omega)
  · exact h
theorem Iv.shas {r : Nat} {p : Int32} : ∀ (k i : Nat) (x : St × Int32 × Int32), i + k = nR → Iv x.1 nA nH nR → Iv (lp (shaG r p) i k x).1 nA nH nR :=
  fun k i x hk h => lp_inv (fun _ (x : St × Int32 × Int32) => Iv x.1 nA nH nR) (shaG r p) nR (fun i x hi h => Iv.sha hi h) k i x hk h
theorem Iv.payB (h : Iv s nA nH nR) {r : Nat} {p : Int32} (hr : r < nR) : Iv (payB s nR r p) nA nH nR := by
  have h1 := Iv.shas (r := r) (p := p) nR 0 (s, p, 0) (by omega) h
  obtain ⟨a, ha, -, ht⟩ := vin (h1.1.2.2.2 r hr).1 (by have := h.1.2.1.2; omega)
  show Iv (giveS _ (tn _) _) nA nH nR
  rw [ht]
  exact h1.give (by have := h.1.2.1.2; omega)
theorem due_none (h : Iv s nA nH nR) {r : Nat} (hrR : r < nR) (hd : isDue s r) : rp s r 5 = -10009 ∧ ¬ rp s r 4 = 0 := by
  obtain ⟨-, -, h1, -, h2⟩ := h.2 r hrR
  rcases hd with hd | hd
  · exact ⟨h1 (by rw [hd]; decide), h2 (Or.inl hd)⟩
  · exact ⟨h1 (by rw [hd]; decide), h2 (Or.inr (Or.inl hd))⟩
theorem Iv.payA (h : Iv s nA nH nR) {r a : Nat} {p own : Int32} (hrR : r < nR) (ha : a < 6) (hd : isDue s r) : Iv (payA s r a p own) nA nH nR := by
  have hr : r < 40 := by have := h.1.2.2.1.2; omega
  obtain ⟨h5, h4⟩ := due_none h hrR hd
  have h1 : Iv (sG (sG (sA s a 2 (ap s a 2 - own)) 1 (gp s 1 - (p - own))) 7 (gp s 7 + p)) nA nH nR := ((h.wA ha (by decide)).wG (by decide) (by decide) (by decide) (by decide)).wG (by decide) (by decide) (by decide) (by decide)
  have e : ∀ j, rp (sG (sG (sA s a 2 (ap s a 2 - own)) 1 (gp s 1 - (p - own))) 7 (gp s 7 + p)) r j = rp s r j := fun j => by rw [rp_sG (by decide), rp_sG (by decide), rp_sA ha (by decide)]
  have h2 : Iv (sR (sG (sG (sA s a 2 (ap s a 2 - own)) 1 (gp s 1 - (p - own))) 7 (gp s 7 + p)) r 3 3) nA nH nR := h1.wR hr (by decide) (by decide) (by decide) (fun _ => (h1.2 r hrR).w3 v6_3 (fun _ => by rw [e]; exact h5) (fun q => by rcases q with q | q <;> exact absurd q (by decide)) (fun _ => by rw [e]; exact h4))
  exact h2.wR hr (by decide) (by decide) (by decide) (fun _ => (h2.2 r hrR).w8)
theorem Iv.pay (h : Iv s nA nH nR) {r : Nat} (hrR : r < nR) (hd : isDue s r) : Iv (paysS s nR r).1 nA nH nR := by
  have hr : r < 40 := by have := h.1.2.2.1.2; omega
  obtain ⟨a, haA, hra, ht⟩ := vin (h.1.2.2.2 r hrR).2 (by have := h.1.1.2; omega)
  have ha : a < 6 := by have := h.1.1.2; omega
  obtain ⟨h5, h4⟩ := due_none h hrR hd
  unfold paysS
  split
  · exact h.wR hr (by decide) (by decide) (by decide) (fun _ => (h.2 r hrR).w3 v6_2 (fun _ => h5) (fun q => by rcases q with q | q <;> exact absurd q (by decide)) (fun _ => h4))
  · rw [ht]
    exact (h.payA hrR ha hd).payB hrR
theorem Iv.al {i : Nat} (hi : i < nA) {x : St} (h : Iv x nA nH nR) : Iv (alG i x) nA nH nR := by
  have := h.1.1.2
  exact (h.wG (by decide) (by decide) (by decide) (by decide)).wA (by omega) (by decide)
theorem Iv.als (h : Iv s nA nH nR) : Iv (lp alG 0 nA s) nA nH nR := lp_inv (fun _ x => Iv x nA nH nR) alG nA (fun i x hi h => Iv.al hi h) nA 0 s (by omega) h
theorem Iv.beg {i : Nat} (hi : i < nR) {x : St × Int32} (h : Iv x.1 nA nH nR) : Iv (begG nR i x).1 nA nH nR := by
  unfold begG
  split
  · rename_i hc; exact h.pay hi (Or.inr hc.1)
  · exact h
theorem Iv.begs (h : Iv s nA nH nR) : Iv (begS s nA nR).1 nA nH nR := lp_inv (fun _ (x : St × Int32) => Iv x.1 nA nH nR) (begG nR) nR (fun i x hi h => Iv.beg hi h) nR 0 (lp alG 0 nA s, 0) (by omega) h.als
/-- new again, out of a report -/
theorem Rw.unf {r : Nat} (h : Rw s r) (h0 : rp s r 3 = 5) : Rw (sR (sR s r 3 0) r 5 (-10009)) r := by
  obtain ⟨a, b, c, d, e⟩ := h
  have hz := d (Or.inr h0)
  unfold Rw
  simp only [rp_sR (show 3 < 12 by decide) (show 3 < 12 by decide), rp_sR (show 3 < 12 by decide) (show 5 < 12 by decide), rp_sR (show 4 < 12 by decide) (show 3 < 12 by decide), rp_sR (show 4 < 12 by decide) (show 5 < 12 by decide), rp_sR (show 5 < 12 by decide) (show 3 < 12 by decide), rp_sR (show 5 < 12 by decide) (show 5 < 12 by decide), rp_sR (show 6 < 12 by decide) (show 3 < 12 by decide), rp_sR (show 6 < 12 by decide) (show 5 < 12 by decide), rp_sR (show 7 < 12 by decide) (show 3 < 12 by decide), rp_sR (show 7 < 12 by decide) (show 5 < 12 by decide), rp_sR (show 9 < 12 by decide) (show 3 < 12 by decide), rp_sR (show 9 < 12 by decide) (show 5 < 12 by decide), rp_sR (show 10 < 12 by decide) (show 3 < 12 by decide), rp_sR (show 10 < 12 by decide) (show 5 < 12 by decide), rp_sR (show 11 < 12 by decide) (show 3 < 12 by decide), rp_sR (show 11 < 12 by decide) (show 5 < 12 by decide), true_and, if_true, Nat.reduceEqDiff, if_false]
  exact ⟨⟨v6_0, a.2⟩, b, fun _ => trivial, fun _ => hz, fun q => by rcases q with q | q | q <;> exact absurd q (by decide)⟩
theorem Iv.unf {r i : Nat} (hi : i < nR) {x : St × Int32} (h : Iv x.1 nA nH nR) : Iv (unfG r i x).1 nA nH nR := by
  have hi4 : i < 40 := by have := h.1.2.2.1.2; omega
  unfold unfG
  split
  · rename_i hc
    refine ⟨(h.1.sR hi4 (by decide) (by decide) (by decide)).sR hi4 (by decide) (by decide) (by decide), fun q hq => ?_⟩
    by_cases e : q = i
    · subst e; exact (h.2 q hq).unf hc.1
    · exact (h.2 q hq).to (fun j hj => by rw [rp_sR hj (by decide), if_neg (fun x => e x.1), rp_sR hj (by decide), if_neg (fun x => e x.1)])
  · exact h
theorem Iv.unfs (h : Iv s nA nH nR) {r : Nat} : Iv (unfS s nR r).1 nA nH nR := lp_inv (fun _ (x : St × Int32) => Iv x.1 nA nH nR) (unfG r) nR (fun i x hi h => Iv.unf hi h) nR 0 (s, 0) (by omega) h
end INV

