/-! the deeds on reports -/
section DEEDS2
variable {xl : Nat} {xs : Nat → Int32} {F : pm_F} {I : Nat → Nat → Int32} {N : Nat} {s : St} {nA nH nR : Nat} {v : Int32}
theorem Rw.w5 {r : Nat} (h : Rw s r) (h5 : rp s r 3 = 5) : Rw (sR s r 5 v) r := by
  obtain ⟨a, b, c, d, e⟩ := h
  unfold Rw
  simp only [rp_sR (show 3 < 12 by decide) (show 3 < 12 by decide), rp_sR (show 3 < 12 by decide) (show 5 < 12 by decide), rp_sR (show 4 < 12 by decide) (show 3 < 12 by decide), rp_sR (show 4 < 12 by decide) (show 5 < 12 by decide), rp_sR (show 5 < 12 by decide) (show 3 < 12 by decide), rp_sR (show 5 < 12 by decide) (show 5 < 12 by decide), rp_sR (show 6 < 12 by decide) (show 3 < 12 by decide), rp_sR (show 6 < 12 by decide) (show 5 < 12 by decide), rp_sR (show 7 < 12 by decide) (show 3 < 12 by decide), rp_sR (show 7 < 12 by decide) (show 5 < 12 by decide), rp_sR (show 9 < 12 by decide) (show 3 < 12 by decide), rp_sR (show 9 < 12 by decide) (show 5 < 12 by decide), rp_sR (show 10 < 12 by decide) (show 3 < 12 by decide), rp_sR (show 10 < 12 by decide) (show 5 < 12 by decide), rp_sR (show 11 < 12 by decide) (show 3 < 12 by decide), rp_sR (show 11 < 12 by decide) (show 5 < 12 by decide), true_and, if_true, Nat.reduceEqDiff, if_false]
  exact ⟨a, b, fun q => absurd h5 q, d, e⟩
theorem Rw.w4' {r : Nat} (h : Rw s r) (hv : vp_in v 5) (h0 : rp s r 3 = 1 ∨ rp s r 3 = 2 ∨ rp s r 3 = 3 → ¬ v = 0) (hs : ¬ (rp s r 3 = 0 ∨ rp s r 3 = 5)) : Rw (sR s r 4 v) r := by
  obtain ⟨a, b, c, d, e⟩ := h
  unfold Rw
  simp only [rp_sR (show 3 < 12 by decide) (show 3 < 12 by decide), rp_sR (show 3 < 12 by decide) (show 4 < 12 by decide), rp_sR (show 3 < 12 by decide) (show 6 < 12 by decide), rp_sR (show 3 < 12 by decide) (show 7 < 12 by decide), rp_sR (show 3 < 12 by decide) (show 9 < 12 by decide), rp_sR (show 3 < 12 by decide) (show 10 < 12 by decide), rp_sR (show 3 < 12 by decide) (show 11 < 12 by decide), rp_sR (show 4 < 12 by decide) (show 3 < 12 by decide), rp_sR (show 4 < 12 by decide) (show 4 < 12 by decide), rp_sR (show 4 < 12 by decide) (show 6 < 12 by decide), rp_sR (show 4 < 12 by decide) (show 7 < 12 by decide), rp_sR (show 4 < 12 by decide) (show 9 < 12 by decide), rp_sR (show 4 < 12 by decide) (show 10 < 12 by decide), rp_sR (show 4 < 12 by decide) (show 11 < 12 by decide), rp_sR (show 5 < 12 by decide) (show 3 < 12 by decide), rp_sR (show 5 < 12 by decide) (show 4 < 12 by decide), rp_sR (show 5 < 12 by decide) (show 6 < 12 by decide), rp_sR (show 5 < 12 by decide) (show 7 < 12 by decide), rp_sR (show 5 < 12 by decide) (show 9 < 12 by decide), rp_sR (show 5 < 12 by decide) (show 10 < 12 by decide), rp_sR (show 5 < 12 by decide) (show 11 < 12 by decide), rp_sR (show 6 < 12 by decide) (show 3 < 12 by decide), rp_sR (show 6 < 12 by decide) (show 4 < 12 by decide), rp_sR (show 6 < 12 by decide) (show 6 < 12 by decide), rp_sR (show 6 < 12 by decide) (show 7 < 12 by decide), rp_sR (show 6 < 12 by decide) (show 9 < 12 by decide), rp_sR (show 6 < 12 by decide) (show 10 < 12 by decide), rp_sR (show 6 < 12 by decide) (show 11 < 12 by decide), rp_sR (show 7 < 12 by decide) (show 3 < 12 by decide), rp_sR (show 7 < 12 by decide) (show 4 < 12 by decide), rp_sR (show 7 < 12 by decide) (show 6 < 12 by decide), rp_sR (show 7 < 12 by decide) (show 7 < 12 by decide), rp_sR (show 7 < 12 by decide) (show 9 < 12 by decide), rp_sR (show 7 < 12 by decide) (show 10 < 12 by decide), rp_sR (show 7 < 12 by decide) (show 11 < 12 by decide), rp_sR (show 9 < 12 by decide) (show 3 < 12 by decide), rp_sR (show 9 < 12 by decide) (show 4 < 12 by decide), rp_sR (show 9 < 12 by decide) (show 6 < 12 by decide), rp_sR (show 9 < 12 by decide) (show 7 < 12 by decide), rp_sR (show 9 < 12 by decide) (show 9 < 12 by decide), rp_sR (show 9 < 12 by decide) (show 10 < 12 by decide), rp_sR (show 9 < 12 by decide) (show 11 < 12 by decide), rp_sR (show 10 < 12 by decide) (show 3 < 12 by decide), rp_sR (show 10 < 12 by decide) (show 4 < 12 by decide), rp_sR (show 10 < 12 by decide) (show 6 < 12 by decide), rp_sR (show 10 < 12 by decide) (show 7 < 12 by decide), rp_sR (show 10 < 12 by decide) (show 9 < 12 by decide), rp_sR (show 10 < 12 by decide) (show 10 < 12 by decide), rp_sR (show 10 < 12 by decide) (show 11 < 12 by decide), rp_sR (show 11 < 12 by decide) (show 3 < 12 by decide), rp_sR (show 11 < 12 by decide) (show 4 < 12 by decide), rp_sR (show 11 < 12 by decide) (show 6 < 12 by decide), rp_sR (show 11 < 12 by decide) (show 7 < 12 by decide), rp_sR (show 11 < 12 by decide) (show 9 < 12 by decide), rp_sR (show 11 < 12 by decide) (show 10 < 12 by decide), rp_sR (show 11 < 12 by decide) (show 11 < 12 by decide), true_and, if_true, Nat.reduceEqDiff, if_false]
  exact ⟨⟨a.1, hv, a.2.2⟩, b, c, fun q => absurd q hs, h0⟩
theorem n20 : ((2 : Int32) = 0) = False := eq_false (by decide)
theorem n12 : ((1 : Int32) = 2) = False := eq_false (by decide)
theorem n02 : ((0 : Int32) = 2) = False := eq_false (by decide)
theorem st3 {x : Int32} (h : vp_in x 6) : (x < 3) = (x = 0 ∨ x = 1 ∨ x = 2) := propext (by
  rcases st_cases h with rfl | rfl | rfl | rfl | rfl | rfl <;> decide)
theorem unf_off (s : St) (nR r : Nat) (h40 : nR ≤ 40) {k : Nat} (hk : k < 59) : (unfS s nR r).1 k = s k := by
  refine lp_inv (fun _ (x : St × Int32) => x.1 k = s k) (unfG r) nR (fun i x hi hx => ?_) nR 0 (s, 0) (by omega) rfl
  unfold unfG
  split
  · unfold sR upd
    dsimp only
    rw [if_neg (by omega), if_neg (by omega)]
    exact hx
  · exact hx
theorem FI.unfs (h : FI N s nA nH nR) {r : Nat} : FI N (unfS s nR r).1 nA nH nR := by
  have h6 := h.1.1.1.2
  have h8 := h.1.1.2.1.2
  have h40 := h.1.1.2.2.1.2
  have hz : ∀ k, k < 59 → (unfS s nR r).1 k = s k := fun k hk => unf_off s nR r h40 hk
  refine ⟨h.1.unfs, ?_⟩
  have e0 : gp (unfS s nR r).1 0 = gp s 0 := hz 0 (by omega)
  rw [e0]
  exact h.2.to (fun g hg => hz g (by omega)) (fun a ha j hj => by unfold ap; exact hz _ (by omega)) (fun a ha j hj => by unfold hp; exact hz _ (by omega)) h8
theorem sH_id {h j : Nat} {v : Int32} (e : hp s h j = v) : sH s h j v = s := by
  funext k
  unfold sH upd
  unfold hp at e
  split
  · rename_i q; rw [q]; exact e.symm
  · rfl
theorem Bd.wH {Rb Mb Nb Mb' Nb' h j : Nat} (b : Bd Rb Mb Nb s nA nH) (h6 : nA ≤ 6) (hh : h < nH) (hj : j < 4) (h8 : nH ≤ 8) (hv : vp_in v (if j = 0 then Mb' else Nb')) (hM : Mb ≤ Mb') (hN : Nb ≤ Nb') : Bd Rb Mb' Nb' (sH s h j v) nA nH := by
  obtain ⟨b1, b2, b3, b4⟩ := b
  refine ⟨?_, fun q hq => ?_, fun q hq => ?_, fun q h1 h2 i hi => ?_⟩
  · rw [gp_sH (by omega), gp_sH (by omega), gp_sH (by omega), gp_sH (by omega)]; exact b1
  · rw [ap_sH (by omega) (by omega), ap_sH (by omega) (by omega), ap_sH (by omega) (by omega)]; exact b2 q hq
  · obtain ⟨c0, c1, c2, c3⟩ := b3 q hq
    rw [hp_sH (by omega) hj, hp_sH (by omega) hj, hp_sH (by omega) hj, hp_sH (by omega) hj]
    refine ⟨?_, ?_, ?_, ?_⟩
    · split
      · rename_i e; rw [if_pos e.2.symm] at hv; exact hv
      · exact in_mono c0 hM
    · split
      · rename_i e; rw [if_neg (by omega)] at hv; exact hv
      · exact in_mono c1 hN
    · split
      · rename_i e; rw [if_neg (by omega)] at hv; exact hv
      · exact in_mono c2 hN
    · split
      · rename_i e; rw [if_neg (by omega)] at hv; exact hv
      · exact in_mono c3 hN
  · rw [hp_sH hi hj, if_neg (by omega)]
    exact b4 q h1 h2 i hi
theorem in_add1 {x : Int32} {n : Nat} (h : vp_in x n) (hn : n < 1000000) : vp_in (x + 1) (n + 1) := by
  obtain ⟨i, hi, rfl, -⟩ := vin h (by omega)
  rw [nI_1]
  exact in_n (by omega) (by omega)
theorem FI.dec (hF : FI N s nA nH nR) (hN : N ≤ 2000) {r x : Nat} (hrR : r < nR) (h6 : rp s r 6 = 1) (hx : x < 5) (hlo : ¬ nI x < rp s r 4) : FI (N + 1) (decS s r (nI x)).1 nA nH nR := by
  have h40 := hF.1.1.2.2.1.2
  have h8 := hF.1.1.2.1.2
  have hr : r < 40 := by omega
  obtain ⟨h, hhH, hrh, ht⟩ := vin (hF.1.1.2.2.2 r hrR).1 (by omega)
  obtain ⟨⟨-, q4, -, -⟩, -, -, d, e⟩ := hF.1.2 r hrR
  have n05 : ¬ (rp s r 3 = 0 ∨ rp s r 3 = 5) := fun q => by
    have := (d q).2.1
    rw [h6] at this
    exact absurd this (by decide)
  have f1 := (hF.mono (Nat.le_refl N)).wR (v := 2) (j := 6) hr (by decide) (by decide) (by decide) (fun _ => (hF.1.2 r hrR).w6 v3_2 n05)
  have f2 : FI N (decA s r (nI x)) nA nH nR := f1.wR hr (by decide) (by decide) (by decide) (fun _ => (f1.1.2 r hrR).w4' (in_n hx (by omega)) (by
    rw [rp_sR (by decide) (by decide), if_neg (by omega)]
    intro q z
    obtain ⟨y, hy, hy4, -⟩ := vin q4 (by omega)
    have e1 := e q
    rw [hy4] at e1 hlo
    rw [z] at hlo
    have : y ≠ 0 := fun y0 => e1 (by rw [y0]; rfl)
    exact hlo (nI_lt (a := 0) (by omega) (by omega))) (by rw [rp_sR (by decide) (by decide), if_neg (by omega)]; exact n05))
  have g0 : ∀ (j : Nat) (w : Int32), gp (sH (decA s r (nI x)) h j w) 0 = gp (decA s r (nI x)) 0 := fun j w => gp_sH (by decide)
  have eh : ∀ j, j < 4 → hp (decA s r (nI x)) h j = hp s h j := fun j hj => by unfold decA; rw [hp_sR (by omega) hj, hp_sR (by omega) hj]
  unfold decS
  rw [ht]
  split
  · refine ⟨f2.1.wH (by omega) (by decide), ?_⟩
    rw [g0]
    exact f2.2.wH hF.1.1.1.2 hhH (by decide) h8 (by rw [if_neg (by decide)]; exact in_mono (in_add1 (hF.2.2.2.1 h hhH).2.1 (by omega)) (by omega)) (by omega) (by omega)
  · split
    · exact f2.mono (Nat.le_succ N)
    · refine ⟨f2.1.wH (by omega) (by decide), ?_⟩
      rw [g0]
      exact f2.2.wH hF.1.1.1.2 hhH (by decide) h8 (by rw [if_neg (by decide)]; exact in_mono (in_add1 (hF.2.2.2.1 h hhH).2.2.1 (by omega)) (by omega)) (by omega) (by omega)
theorem dec_m (s : St) (r h : Nat) (sv : Int32) (hh : h < 8) (hrh : tn (rp s r 0) = h) (t : Int32) (ht : t = (decS s r sv).2) : sH (sH (decA s r sv) h 1 (hp (decA s r sv) h 1 + if t = 2 then 1 else 0)) h 2 (hp (sH (decA s r sv) h 1 (hp (decA s r sv) h 1 + if t = 2 then 1 else 0)) h 2 + if t = 0 then 1 else 0) = (decS s r sv).1 := by
  subst ht
  have e : ∀ j, j < 4 → hp (decA s r sv) h j = hp s h j := fun j hj => by unfold decA; rw [hp_sR (by omega) hj, hp_sR (by omega) hj]
  unfold decS
  rw [hrh]
  split
  · dsimp only
    rw [if_pos rfl, if_neg (by decide), e 1 (by decide), Int32.add_zero]
    exact sH_id rfl
  · split
    · dsimp only
      rw [if_neg (by decide), if_neg (by decide), Int32.add_zero, Int32.add_zero, sH_id rfl]
      exact sH_id rfl
    · dsimp only
      rw [if_neg (by decide), if_pos rfl, Int32.add_zero, sH_id rfl, e 2 (by decide)]
end DEEDS2

