/-! pay; a quarter's and a bonus's bounds -/
section PAYD
variable {xl : Nat} {xs : Nat → Int32} {F : pm_F} {I : Nat → Nat → Int32} {N : Nat} {s s' : St} {nA nH nR Rb Mb Nb Mb' Nb' N' : Nat} {v : Int32}
theorem FI.mk (hI : Iv s' nA nH nR) (h0 : gp s' 0 = gp s 0) (hb : Bd (1000001 + 120000 * (tn (gp s 0) / 90)) Mb' Nb' s' nA nH) (hM : Mb' ≤ 800000 * N' + 1) (hN : Nb' ≤ 8 * N' + 1) : FI N' s' nA nH nR := by
  refine ⟨hI, ?_⟩
  rw [h0]
  exact hb.mono (Nat.le_refl _) hM hN
theorem FI.pays (hF : FI N s nA nH nR) (hN : N ≤ 2000) {r : Nat} (hrR : r < nR) (hd : isDue s r) : FI (N + 1) (paysS s nR r).1 nA nH nR := by
  have := hF.rb
  exact FI.mk (hF.1.pay hrR hd) (pay_gp hF.1 hrR (by decide) (by decide) (by decide)) (hF.2.pays hF.1 hrR hd (by omega) (by omega)) (by omega) (by omega)
theorem Bd.al {a : Nat} (b : Bd Rb Mb Nb s nA nH) (h6 : nA ≤ 6) (ha : a < nA) (hR : Rb < 100000000) : Bd (Rb + 20000) Mb Nb (alG a s) nA nH := by
  obtain ⟨-, c1, c2⟩ := b.2.1 a ha
  obtain ⟨w, hw, hw2, -⟩ := vin c1 (by omega)
  obtain ⟨q, hq, hq2, -⟩ := vin c2 (by omega)
  obtain ⟨g, hg, hg2⟩ := vp_in_of b.1.2.1 (by omega)
  have e : ∃ t, staS s a = nI t ∧ t ≤ q ∧ t ≤ w := by
    unfold staS
    rw [hq2, hw2]
    by_cases z : q < w
    · rw [if_pos (nI_lt z (by omega))]; exact ⟨q, rfl, by omega, by omega⟩
    · rw [if_neg (nI_nlt (by omega) (by omega))]; exact ⟨w, rfl, by omega, by omega⟩
  obtain ⟨t, et, t1, t2⟩ := e
  unfold alG
  rw [et, hq2, hw2, hg2, pk_sub t1, nI_add, nI_add]
  exact (b.wG (Or.inl ⟨rfl, in_n (k := g + (q - t)) (by omega) (by omega)⟩)).wA (by omega) (in_n (by omega) (by omega))
theorem Bd.als (hI : Iv s nA nH nR) (b : Bd Rb Mb Nb s nA nH) (hR : Rb + 120000 < 100000000) : Bd (Rb + 120000) Mb Nb (lp alG 0 nA s) nA nH := by
  have h6 := hI.1.1.2
  have := lp_inv (fun i x => Bd (Rb + 20000 * i) Mb Nb x nA nH) alG nA (fun i x hi h => (h.al h6 hi (by omega)).mono (by omega) (Nat.le_refl _) (Nat.le_refl _)) nA 0 s (by omega) b
  exact this.mono (by omega) (Nat.le_refl _) (Nat.le_refl _)
theorem Bd.begs (hI : Iv s nA nH nR) (b : Bd Rb Mb Nb s nA nH) (hR : Rb + 120000 < 100000000) (hM : Mb + 149760 < 2147483648) : Bd (Rb + 120000) (Mb + 149760) Nb (begS s nA nR).1 nA nH := by
  have h40 := hI.1.2.2.1.2
  have b1 := b.als hI hR
  have := lp_inv (fun i (x : St × Int32) => Bd (Rb + 120000) (Mb + 3744 * i) Nb x.1 nA nH ∧ Iv x.1 nA nH nR) (begG nR) nR (fun i x hi h => by
    refine ⟨?_, h.2.beg hi⟩
    unfold begG
    split
    · rename_i hc
      exact (h.1.pays h.2 hi (Or.inr hc.1) (by omega) (by omega)).mono (Nat.le_refl _) (by omega) (Nat.le_refl _)
    · exact h.1.mono (Nat.le_refl _) (by omega) (Nat.le_refl _)) nR 0 (lp alG 0 nA s, 0) (by omega) ⟨b1, hI.als⟩
  exact this.1.mono (Nat.le_refl _) (by omega) (Nat.le_refl _)
theorem beg_gp (hI : Iv s nA nH nR) {g : Nat} (hg : g < 9) (h1 : ¬ g = 1) (h7 : ¬ g = 7) : gp (begS s nA nR).1 g = gp s g := by
  have h6 := hI.1.1.2
  have e1 := lp_inv (fun _ x => gp x g = gp s g) alG nA (fun i x hi h => by
    unfold alG
    rw [gp_sA hg, gp_sG, if_neg h1]
    exact h) nA 0 s (by omega) rfl
  have := lp_inv (fun i (x : St × Int32) => gp x.1 g = gp s g ∧ Iv x.1 nA nH nR) (begG nR) nR (fun i x hi h => by
    refine ⟨?_, h.2.beg hi⟩
    unfold begG
    split
    · dsimp only
      rw [pay_gp h.2 hi hg h1 h7]
      exact h.1
    · exact h.1) nR 0 (lp alG 0 nA s, 0) (by omega) ⟨e1, hI.als⟩
  exact this.1
theorem on_n (v : Int32) : ∃ c, c ≤ 8 ∧ onS v = nI c := by
  unfold onS
  refine lp_inv (fun i (x : Int32) => ∃ c, c ≤ i ∧ x = nI c) _ 8 (fun i x hi h => ?_) 8 0 0 (by omega) ⟨0, by omega, rfl⟩
  obtain ⟨c, hc, rfl⟩ := h
  obtain ⟨j, hj, e⟩ := pk_andE (v >>> (nI i &&& 31)) (m := 1) 1 (by decide)
  refine ⟨c + j, by omega, ?_⟩
  show nI c + ((v >>> (nI i &&& 31)) &&& 1) = _
  rw [e, nI_add]
theorem Bd.bon (hI : Iv s nA nH nR) (b : Bd Rb Mb Nb s nA nH) (hR : Rb < 100000000) (hM : Mb + 4000 < 2147483648) (hN : Nb + 8 < 1000000) : Bd Rb (Mb + 4000) (Nb + 8) (bonS s nH v) nA nH := by
  have h6 := hI.1.1.2
  have h8 := hI.1.2.1.2
  obtain ⟨c, hc, ec⟩ := on_n v
  obtain ⟨g, hg, hg2, -⟩ := vin b.1.2.2.2 (by omega)
  obtain ⟨q, hq, hq2⟩ := vp_in_of b.1.2.1 (by omega)
  have hcg : c * g ≤ 8 * 500 := Nat.mul_le_mul hc (by omega)
  unfold bonS
  rw [ec, hg2, hq2, pk_mul]
  split
  · exact b.mono (Nat.le_refl _) (by omega) (by omega)
  · rename_i z
    have z2 : c * g ≤ q := by
      rcases Nat.lt_or_ge q (c * g) with y | y
      · exact absurd (nI_lt y (by omega)) z
      · exact y
    rw [pk_sub z2]
    have b1 : Bd Rb Mb Nb (sG (sG s 1 (nI (q - c * g))) 8 (gp s 8 + nI (c * g))) nA nH := (b.wG (Or.inl ⟨rfl, in_n (k := q - c * g) (by omega) (by omega)⟩)).wG (Or.inr ⟨by omega, Nat.le_refl _⟩)
    have := lp_inv (fun i x => Bd Rb (Mb + 500 * i) (Nb + i) x nA nH) (bonG v (nI g)) nH (fun i x hi h => by
      unfold bonG
      split
      · have h1 := h.give (m := 500) (k := g) h6 h8 hi (by omega) (by omega)
        refine (h1.wH (Mb' := Mb + 500 * i + 500) (Nb' := Nb + i + 1) h6 hi (by decide) h8 ?_ (Nat.le_refl _) (by omega)).mono (Nat.le_refl _) (by omega) (by omega)
        rw [if_neg (by decide)]
        exact in_add1 (h1.2.2.1 i hi).2.2.2 (by omega)
      · exact h.mono (Nat.le_refl _) (by omega) (by omega)) nH 0 _ (by omega) b1
    exact this.mono (Nat.le_refl _) (by omega) (by omega)
theorem bon_gp (hI : Iv s nA nH nR) : gp (bonS s nH v) 0 = gp s 0 := by
  have h8 := hI.1.2.1.2
  unfold bonS
  split
  · rfl
  · refine lp_inv (fun _ x => gp x 0 = gp s 0) (bonG v (gp s 3)) nH (fun i x hi hx => ?_) nH 0 _ (by omega) (by rw [gp_sG, if_neg (by decide), gp_sG, if_neg (by decide)])
    unfold bonG
    split
    · rw [gp_sH (by decide), giv_gp _ _ _ _ (by decide)]; exact hx
    · exact hx
end PAYD

