/-! a report is opened -/
section REPO
variable {xl : Nat} {xs : Nat → Int32} {F : pm_F} {I : Nat → Nat → Int32} {N : Nat} {s : St} {nA nH nR : Nat} {v : Int32} {M : pm_H}
theorem FI.opR (h : FI N s nA nH nR) (hn : nR < 40) {a b : Nat} (ha : a < nH) (hb : b < nA) {f : Int32} : FI N (opnR s nR (nI a) (nI b) f) nA nH (nR + 1) := by
  have h6 := h.1.1.1.2
  have h8 := h.1.1.2.1.2
  have eg : ∀ q, q < 9 → ¬ q = 6 → gp (opnR s nR (nI a) (nI b) f) q = gp s q := fun q hq h4 => by
    unfold opnR
    rw [gp_sG, if_neg h4, gp_sR hq, gp_sR hq, gp_sR hq, gp_sR hq]
    exact zerR_off s nR (k := q) (by omega)
  have eh : ∀ q, q < 8 → ∀ j, j < 4 → hp (opnR s nR (nI a) (nI b) f) q j = hp s q j := fun q hq j hj => by
    unfold opnR
    rw [hp_sG (by decide), hp_sR hq hj, hp_sR hq hj, hp_sR hq hj, hp_sR hq hj]
    unfold hp
    exact zerR_off s nR (by omega)
  have ea : ∀ q, q < 6 → ∀ j, j < 3 → ap (opnR s nR (nI a) (nI b) f) q j = ap s q j := fun q hq j hj => by
    unfold opnR
    rw [ap_sG (by decide), ap_sR hq hj, ap_sR hq hj, ap_sR hq hj, ap_sR hq hj]
    unfold ap
    exact zerR_off s nR (by omega)
  have er : ∀ q j, j < 12 → ¬ q = nR → rp (opnR s nR (nI a) (nI b) f) q j = rp s q j := fun q j hj hq => by
    unfold opnR
    rw [rp_sG (by decide), rp_sR hj (by decide), if_neg (fun x => hq x.1), rp_sR hj (by decide), if_neg (fun x => hq x.1), rp_sR hj (by decide), if_neg (fun x => hq x.1), rp_sR hj (by decide), if_neg (fun x => hq x.1)]
    unfold rp
    exact zerR_off s nR (by omega)
  have e0 : ∀ j, j < 12 → rp (opnR s nR (nI a) (nI b) f) nR j = if j = 5 then -10009 else if j = 2 then f else if j = 1 then nI b else if j = 0 then nI a else 0 := fun j hj => by
    unfold opnR
    rw [rp_sG (by decide), rp_sR hj (by decide), rp_sR hj (by decide), rp_sR hj (by decide), rp_sR hj (by decide), zerR_in s nR hj]
    simp only [true_and]
  refine ⟨⟨⟨?_, ?_, ⟨?_, by omega⟩, fun r hr => ?_⟩, fun r hr => ?_⟩, ?_⟩
  · rw [eg 4 (by decide) (by decide)]; exact h.1.1.1
  · rw [eg 5 (by decide) (by decide)]; exact h.1.1.2.1
  · unfold opnR
    rw [gp_sG, if_pos rfl, h.1.1.2.2.1.1, nI_1]
  · by_cases e : r = nR
    · subst e
      rw [e0 0 (by decide), e0 1 (by decide), if_neg (by decide), if_neg (by decide), if_neg (by decide), if_pos rfl, if_neg (by decide), if_neg (by decide), if_pos rfl]
      exact ⟨in_n ha (by omega), in_n hb (by omega)⟩
    · rw [er r 0 (by decide) e, er r 1 (by decide) e]
      exact h.1.1.2.2.2 r (by omega)
  · by_cases e : r = nR
    · subst e
      unfold Rw
      rw [e0 3 (by decide), e0 4 (by decide), e0 5 (by decide), e0 6 (by decide), e0 7 (by decide), e0 9 (by decide), e0 10 (by decide), e0 11 (by decide)]
      simp only [Nat.reduceEqDiff, if_true, if_false]
      exact ⟨⟨v6_0, v5_0, v3_0, v5_0⟩, ⟨z0, v256_0, v256_0⟩, fun _ => trivial, fun _ => ⟨trivial, trivial, trivial, trivial, trivial, trivial⟩, fun q => by rcases q with q | q | q <;> exact absurd q (by decide)⟩
    · exact (h.1.2 r (by omega)).to (fun j hj => er r j hj e)
  · rw [eg 0 (by decide) (by decide)]
    exact h.2.to (fun g hg => eg g (by omega) (by omega)) (fun q hq j hj => ea q (by omega) j hj) eh h8
end REPO

