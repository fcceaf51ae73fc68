/-! both sides hold the same; a deed -/
def Res : Type := Option (Option Value × pm_H)
section FULL
variable {xl : Nat} {xs : Nat → Int32} {F : pm_F} {I : Nat → Nat → Int32} {s s' : St} {nA nH nR nA' nH' nR' N n m : Nat} {H : Nat → St} {ec em : pm_H → Option (Option Value × pm_H)} {v : Int32}
theorem rowI (I : Nat → Nat → Int32) : row I 584 (I 584) = I := row_self
theorem RB.row {K J' : Nat → Nat → Int32} (h : RB K 1 s nA nH nR) (h6 : nA ≤ 6) (h8 : nH ≤ 8) (h40 : nR ≤ 40) (hJ : ∀ k, k < 583 → J' k = K k) : RB (row J' 584 s') 1 s nA nH nR :=
  h.to h6 h8 h40 (fun k g1 g2 => (row_n (by omega)).trans (hJ k (by omega))) (fun _ _ => rfl)
/-- behind remember, only the book has changed -/
theorem behind {J K : Nat → Nat → Int32} {m' n' : Nat} {H' : Nat → St} (hC : CHs N J n' m' H') (hk : ∀ k, 582 ≤ k → J k = I k) (hF : Fr J K 1) : CHs N K n' m' H' ∧ ∀ k, 582 ≤ k → K k = I k :=
  ⟨hC.to (hF 0 (by omega)) (fun k g1 g2 => hF k (by omega)), fun k h => (hF k (by omega)).trans (hk k h)⟩
/-- bounds speak of all but the reports -/
theorem Bd.to {Rb Mb Nb : Nat} (h : Bd Rb Mb Nb s nA nH) (hg : ∀ g, g < 4 → gp s' g = gp s g) (ha : ∀ a, a < nA → ∀ j, j < 3 → ap s' a j = ap s a j) (hh : ∀ h, h < 8 → ∀ j, j < 4 → hp s' h j = hp s h j) (h8 : nH ≤ 8) : Bd Rb Mb Nb s' nA nH := by
  obtain ⟨a, b, c, d⟩ := h
  refine ⟨?_, fun q hq => ?_, fun q hq => ?_, fun q h1 h2 i hi => ?_⟩
  · rw [hg 0 (by decide), hg 1 (by decide), hg 2 (by decide), hg 3 (by decide)]; exact a
  · rw [ha q hq 0 (by decide), ha q hq 1 (by decide), ha q hq 2 (by decide)]; exact b q hq
  · rw [hh q (by omega) 0 (by decide), hh q (by omega) 1 (by decide), hh q (by omega) 2 (by decide), hh q (by omega) 3 (by decide)]; exact c q hq
  · rw [hh q h2 i hi]; exact d q h1 h2 i hi
theorem Bd.wR {Rb Mb Nb r j : Nat} (h : Bd Rb Mb Nb s nA nH) (h6 : nA ≤ 6) (h8 : nH ≤ 8) : Bd Rb Mb Nb (sR s r j v) nA nH :=
  h.to (fun g hg => gp_sR (by omega)) (fun a ha j hj => ap_sR (by omega) hj) (fun h hh j hj => hp_sR hh hj) h8
theorem FI.wR (h : FI N s nA nH nR) {r j : Nat} (hr : r < 40) (h0 : j ≠ 0) (h1 : j ≠ 1) (hj : j < 12) (hw : r < nR → Rw (sR s r j v) r) : FI N (sR s r j v) nA nH nR := by
  refine ⟨h.1.wR hr h0 h1 hj hw, ?_⟩
  rw [gp_sR (by decide)]
  exact h.2.wR h.1.1.1.2 h.1.1.2.1.2
theorem Bd.of {Rb Rb' Mb Mb' Nb Nb' : Nat} (h : Bd Rb Mb Nb s nA nH) (h1 : vp_in (gp s' 0) 10000 ∧ vp_in (gp s' 1) Rb' ∧ (vp_in (gp s' 2) 201 ∧ ¬ gp s' 2 < 50) ∧ vp_in (gp s' 3) 501) (ha : ∀ a, a < nA → ∀ j, j < 3 → ap s' a j = ap s a j) (hh : ∀ h, h < 8 → ∀ j, j < 4 → hp s' h j = hp s h j) (h8 : nH ≤ 8) (hM : Mb ≤ Mb') (hN : Nb ≤ Nb') : Bd Rb' Mb' Nb' s' nA nH := by
  obtain ⟨a, b, c, d⟩ := h
  refine ⟨h1, fun q hq => ?_, fun q hq => ?_, fun q h1 h2 i hi => ?_⟩
  · rw [ha q hq 0 (by decide), ha q hq 1 (by decide), ha q hq 2 (by decide)]; exact b q hq
  · rw [hh q (by omega) 0 (by decide), hh q (by omega) 1 (by decide), hh q (by omega) 2 (by decide), hh q (by omega) 3 (by decide)]
    exact ⟨in_mono (c q hq).1 hM, in_mono (c q hq).2.1 hN, in_mono (c q hq).2.2.1 hN, in_mono (c q hq).2.2.2 hN⟩
  · rw [hh q h2 i hi]; exact d q h1 h2 i hi
theorem rng_of {w : Int32} {a b : Nat} (ha : a < 2147483648) (hb : b < 2147483648) (h : ¬ (w < nI a ∨ nI b < w)) : ∃ k, w = nI k ∧ a ≤ k ∧ k ≤ b := by
  have h0 : ¬ w < 0 := by
    intro q
    refine h (Or.inl ?_)
    have := nI_pos' (n := a) (by omega)
    rw [Int32.lt_iff_toInt_lt] at q ⊢
    rw [Int32.le_iff_toInt_le] at this
    have z : (0 : Int32).toInt = 0 := by decide
    omega
  obtain ⟨k, hk, rfl⟩ := nI_of h0
  refine ⟨k, rfl, ?_, ?_⟩
  · rcases Nat.lt_or_ge k a with g | g
    · exact absurd (Or.inl (nI_lt g (by omega))) h
    · exact g
  · rcases Nat.lt_or_ge b k with g | g
    · exact absurd (Or.inr (nI_lt g (by omega))) h
    · exact g
theorem in_n {k n : Nat} (h : k < n) (hn : n < 2147483648) : vp_in (nI k) n := vp_in_nI h (by omega)
theorem FI.rb (h : FI N s nA nH nR) : 1000001 + 120000 * (tn (gp s 0) / 90) ≤ 14320001 := by
  obtain ⟨d, hd, -, ht⟩ := vin h.2.1.1 (by omega)
  rw [ht]
  omega
theorem FI.cg (h : FI N s nA nH nR) (hs : ∀ k, k < 539 → s' k = s k) : FI N s' nA nH nR := by
  have g : ∀ g, g < 9 → gp s' g = gp s g := fun g hg => hs g (by omega)
  have h6 := h.1.1.1.2
  have h8 := h.1.1.2.1.2
  have h40 := h.1.1.2.2.1.2
  have a : ∀ a, a < 6 → ∀ j, j < 3 → ap s' a j = ap s a j := fun a ha j hj => by unfold ap; exact hs _ (by omega)
  have b : ∀ a, a < 8 → ∀ j, j < 4 → hp s' a j = hp s a j := fun a ha j hj => by unfold hp; exact hs _ (by omega)
  have c : ∀ a, a < 40 → ∀ j, j < 12 → rp s' a j = rp s a j := fun a ha j hj => by unfold rp; exact hs _ (by omega)
  refine ⟨⟨⟨?_, ?_, ?_, fun r hr => ?_⟩, fun r hr => (h.1.2 r hr).to (c r (by omega))⟩, ?_⟩
  · rw [g 4 (by decide)]; exact h.1.1.1
  · rw [g 5 (by decide)]; exact h.1.1.2.1
  · rw [g 6 (by decide)]; exact h.1.1.2.2.1
  · rw [c r (by omega) 0 (by decide), c r (by omega) 1 (by decide)]; exact h.1.1.2.2.2 r hr
  · rw [g 0 (by decide)]
    exact h.2.to (fun q hq => g q (by omega)) (fun q hq => a q (by omega)) b h8
theorem FI.opA (h : FI N s nA nH nR) {w al : Nat} (hn : nA < 6) (hw : 1 ≤ w) (hw9 : w < 10) (hal : al < 10001) : FI N (opnA s nA (nI w) (nI al)) (nA + 1) nH nR := by
  have h8 := h.1.1.2.1.2
  have h40 := h.1.1.2.2.1.2
  have eg : ∀ q, q < 9 → ¬ q = 4 → gp (opnA s nA (nI w) (nI al)) q = gp s q := fun q hq h4 => by
    unfold opnA
    rw [gp_sG, if_neg h4, gp_sA hq, gp_sA hq, gp_sA hq]
  have eh : ∀ q, q < 8 → ∀ j, j < 4 → hp (opnA s nA (nI w) (nI al)) q j = hp s q j := fun q hq j hj => by
    unfold opnA
    rw [hp_sG (by decide), hp_sA hn (by decide), hp_sA hn (by decide), hp_sA hn (by decide)]
  have er : ∀ q j, rp (opnA s nA (nI w) (nI al)) q j = rp s q j := fun q j => by
    unfold opnA
    rw [rp_sG (by decide), rp_sA hn (by decide), rp_sA hn (by decide), rp_sA hn (by decide)]
  have ea : ∀ q, q < 6 → ∀ j, j < 3 → ap (opnA s nA (nI w) (nI al)) q j = if q = nA then (if j = 0 then nI w else nI al) else ap s q j := fun q hq j hj => by
    unfold opnA
    rw [ap_sG (by decide), ap_sA hj (by decide), ap_sA hj (by decide), ap_sA hj (by decide)]
    by_cases e : q = nA
    · rw [if_pos e]
      have : j = 0 ∨ j = 1 ∨ j = 2 := by omega
      rcases this with j0 | j0 | j0
      · rw [if_neg (by omega), if_neg (by omega), if_pos (by omega), if_pos j0]
      · rw [if_neg (by omega), if_pos (by omega), if_neg (by omega)]
      · rw [if_pos (by omega), if_neg (by omega)]
    · rw [if_neg (by omega), if_neg (by omega), if_neg (by omega), if_neg e]
  refine ⟨⟨⟨⟨?_, by omega⟩, ?_, ?_, fun r hr => ?_⟩, fun r hr => (h.1.2 r hr).to (fun j _ => er r j)⟩, ?_, fun a ha => ?_, fun q hq => ?_, fun q h1 h2 i hi => ?_⟩
  · unfold opnA
    rw [gp_sG, if_pos rfl, h.1.1.1.1, nI_1]
  · rw [eg 5 (by decide) (by decide)]; exact h.1.1.2.1
  · rw [eg 6 (by decide) (by decide)]; exact h.1.1.2.2.1
  · rw [er, er]
    exact ⟨(h.1.1.2.2.2 r hr).1, in_mono (h.1.1.2.2.2 r hr).2 (by omega)⟩
  · rw [eg 0 (by decide) (by decide), eg 1 (by decide) (by decide), eg 2 (by decide) (by decide), eg 3 (by decide) (by decide)]
    exact h.2.1
  · rw [ea a (by omega) 0 (by decide), ea a (by omega) 1 (by decide), ea a (by omega) 2 (by decide)]
    by_cases e : a = nA
    · rw [if_pos e, if_pos e, if_pos e, if_pos rfl, if_neg (by omega), if_neg (by omega)]
      refine ⟨⟨in_n hw9 (by omega), ?_⟩, in_n hal (by omega), in_n (by omega) (by omega)⟩
      intro q
      have q2 := (eq_iff (i := w) (n := 0) (by omega) (by omega)).mp q
      omega
    · rw [if_neg e, if_neg e, if_neg e]
      exact h.2.2.1 a (by omega)
  · rw [eh q (by omega) 0 (by decide), eh q (by omega) 1 (by decide), eh q (by omega) 2 (by decide), eh q (by omega) 3 (by decide)]
    exact h.2.2.2.1 q hq
  · rw [eh q h2 i hi]
    exact h.2.2.2.2 q h1 h2 i hi
theorem FI.opH (h : FI N s nA nH nR) (hN : N ≤ 2000) (hn : nH < 8) : FI N (opnH s) nA (nH + 1) nR := by
  unfold opnH
  have eg : ∀ q, ¬ q = 5 → gp (sG s 5 (gp s 5 + 1)) q = gp s q := fun q h5 => by
    rw [gp_sG, if_neg h5]
  have eh : ∀ q j, hp (sG s 5 (gp s 5 + 1)) q j = hp s q j := fun q j => hp_sG (by decide)
  have er : ∀ q j, rp (sG s 5 (gp s 5 + 1)) q j = rp s q j := fun q j => rp_sG (by decide)
  have ea : ∀ q j, ap (sG s 5 (gp s 5 + 1)) q j = ap s q j := fun q j => ap_sG (by decide)
  refine ⟨⟨⟨?_, ⟨?_, by omega⟩, ?_, fun r hr => ?_⟩, fun r hr => (h.1.2 r hr).to (fun j _ => er r j)⟩, ?_, fun a ha => ?_, fun q hq => ?_, fun q h1 h2 i hi => ?_⟩
  · rw [eg 4 (by decide)]; exact h.1.1.1
  · rw [gp_sG, if_pos rfl, h.1.1.2.1.1, nI_1]
  · rw [eg 6 (by decide)]; exact h.1.1.2.2.1
  · rw [er, er]
    exact ⟨in_mono (h.1.1.2.2.2 r hr).1 (by omega), (h.1.1.2.2.2 r hr).2⟩
  · rw [eg 0 (by decide), eg 1 (by decide), eg 2 (by decide), eg 3 (by decide)]
    exact h.2.1
  · rw [ea, ea, ea]
    exact h.2.2.1 a ha
  · rw [eh, eh, eh, eh]
    rcases Nat.lt_or_ge q nH with g | g
    · exact h.2.2.2.1 q g
    · have z := h.2.2.2.2 q g (by omega)
      rw [z 0 (by decide), z 1 (by decide), z 2 (by decide), z 3 (by decide)]
      exact ⟨in_n (k := 0) (by omega) (by have := hN; omega), in_n (k := 0) (by omega) (by have := hN; omega), in_n (k := 0) (by omega) (by have := hN; omega), in_n (k := 0) (by omega) (by have := hN; omega)⟩
  · rw [eh]
    exact h.2.2.2.2 q (by omega) h2 i hi
end FULL

