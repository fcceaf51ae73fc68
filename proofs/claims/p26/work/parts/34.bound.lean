/-! bounds of what is paid -/
section BOUND
variable {s : St} {nA nH nR Rb Mb Nb : Nat} {v : Int32}
theorem price_n (hI : Iv s nA nH nR) (hB : Bd Rb Mb Nb s nA nH) {r : Nat} (hrR : r < nR) (h4 : ¬ rp s r 4 = 0) : ∃ p, price s r = nI p ∧ 1 ≤ p ∧ p ≤ 2880 := by
  obtain ⟨a, haA, hra, ht⟩ := vin (hI.1.2.2.2 r hrR).2 (by have := hI.1.1.2; omega)
  obtain ⟨x, hx, hx4, -⟩ := vin (hI.2 r hrR).1.2.1 (by omega)
  obtain ⟨⟨w1, w2⟩, -, -⟩ := hB.2.1 a haA
  obtain ⟨w, hw, hw0, -⟩ := vin w1 (by omega)
  obtain ⟨g, hg, hg2, -⟩ := vin hB.1.2.2.1.1 (by omega)
  have x0 : 1 ≤ x := by
    rcases Nat.eq_zero_or_pos x with q | q
    · exact absurd (by rw [hx4, q]; rfl) h4
    · exact q
  have w0 : 1 ≤ w := by
    rcases Nat.eq_zero_or_pos w with q | q
    · exact absurd (by rw [hw0, q]; rfl) w2
    · exact q
  have g0 : 50 ≤ g := by
    rcases Nat.lt_or_ge g 50 with q | q
    · exact absurd (by rw [hg2]; exact nI_lt (b := 50) q (by omega)) hB.1.2.2.1.2
    · exact q
  have e1 : 1 ≤ x * x * w := Nat.mul_pos (Nat.mul_pos x0 x0) w0
  have e2 : x * x * w ≤ 144 := Nat.mul_le_mul (Nat.mul_le_mul (show x ≤ 4 by omega) (show x ≤ 4 by omega)) (show w ≤ 9 by omega)
  have e3 : x * x * w * 10 * g ≤ 288000 := Nat.mul_le_mul (show x * x * w * 10 ≤ 1440 by omega) (show g ≤ 200 by omega)
  have e4 : 500 ≤ x * x * w * 10 * g := Nat.mul_le_mul (show 10 ≤ x * x * w * 10 by omega) g0
  refine ⟨x * x * w * 10 * g / 100, ?_, by omega, by omega⟩
  unfold price prS
  rw [ht, hx4, hw0, hg2, pk_mul, pk_mul]
  show nI (x * x * w) * nI 10 * nI g / nI 100 = _
  rw [pk_mul, pk_mul, pk_div (by omega) (by omega) (by omega)]
theorem giv_gp (s : St) (h g : Nat) (v : Int32) (hg : g < 9) : gp (giveS s h v) g = gp s g := gp_sH hg
theorem Bd.give {h m k : Nat} (b : Bd Rb Mb Nb s nA nH) (h6 : nA ≤ 6) (h8 : nH ≤ 8) (hh : h < nH) (hk : k ≤ m) (hM : Mb + m < 2147483648) : Bd Rb (Mb + m) Nb (giveS s h (nI k)) nA nH := by
  unfold giveS
  refine b.wH h6 hh (by decide) h8 ?_ (by omega) (Nat.le_refl _)
  rw [if_pos rfl]
  obtain ⟨i, hi, hx⟩ := vp_in_of (b.2.2.1 h hh).1 (by omega)
  rw [hx, nI_add]
  exact in_n (by omega) (by omega)
theorem Bd.mono {Rb' Mb' Nb' : Nat} (b : Bd Rb Mb Nb s nA nH) (hR : Rb ≤ Rb') (hM : Mb ≤ Mb') (hN : Nb ≤ Nb') : Bd Rb' Mb' Nb' s nA nH :=
  ⟨⟨b.1.1, in_mono b.1.2.1 hR, b.1.2.2⟩, b.2.1, fun h hh => ⟨in_mono (b.2.2.1 h hh).1 hM, in_mono (b.2.2.1 h hh).2.1 hN, in_mono (b.2.2.1 h hh).2.2.1 hN, in_mono (b.2.2.1 h hh).2.2.2 hN⟩, b.2.2.2⟩
/-- the shares -/
theorem Bd.shas {r p : Nat} (hp : p ≤ 2880) (hI : Iv s nA nH nR) (b : Bd Rb Mb Nb s nA nH) (hM : Mb + 3744 < 2147483648) :
    ∃ k, k ≤ 3 ∧ (lp (shaG r (nI p)) 0 nR (s, nI p, 0)).2.2 = nI k ∧ (lp (shaG r (nI p)) 0 nR (s, nI p, 0)).2.1 = nI (p - k * (p / 10)) ∧ Bd Rb (Mb + 288 * k) Nb (lp (shaG r (nI p)) 0 nR (s, nI p, 0)).1 nA nH ∧ Iv (lp (shaG r (nI p)) 0 nR (s, nI p, 0)).1 nA nH nR := by
  have h6 := hI.1.1.2
  have h8 := hI.1.2.1.2
  refine lp_inv (fun _ (x : St × Int32 × Int32) => ∃ k, k ≤ 3 ∧ x.2.2 = nI k ∧ x.2.1 = nI (p - k * (p / 10)) ∧ Bd Rb (Mb + 288 * k) Nb x.1 nA nH ∧ Iv x.1 nA nH nR) (shaG r (nI p)) nR (fun i x hi hx => ?_) nR 0 (s, nI p, 0) (by omega) ⟨0, by omega, rfl, by rw [Nat.zero_mul]; rfl, b, hI⟩
  obtain ⟨k, hk, e1, e2, hb, hx⟩ := hx
  unfold shaG
  split
  · rename_i hc
    have hk3 : k < 3 := by
      have := hc.1
      rw [e1] at this
      exact (nI_ltI (a := k) (b := 3) (by omega) (by omega)).mp this
    obtain ⟨a, ha, -, ht⟩ := vin (hx.1.2.2.2 i hi).1 (by omega)
    have ep : nI p / 10 = nI (p / 10) := pk_div (d := 10) (by omega) (by omega) (by omega)
    refine ⟨k + 1, by omega, ?_, ?_, ?_, ?_⟩
    · dsimp only; rw [e1, nI_1]
    · dsimp only
      have : (k + 1) * (p / 10) = k * (p / 10) + p / 10 := by rw [Nat.add_mul, Nat.one_mul]
      have h1 : k * (p / 10) ≤ 2 * (p / 10) := Nat.mul_le_mul (by omega) (Nat.le_refl _)
      rw [e2, ep, pk_sub (by omega), this]
      exact congrArg nI (by omega)
    · dsimp only
      rw [ht, ep]
      exact (hb.give (m := 288) h6 h8 ha (by omega) (by omega)).mono (Nat.le_refl _) (by omega) (Nat.le_refl _)
    · dsimp only
      rw [ht]
      exact hx.give (by omega)
  · exact ⟨k, hk, e1, e2, hb, hx⟩
theorem Bd.wA {a : Nat} (b : Bd Rb Mb Nb s nA nH) (ha : a < 6) (hv : vp_in v 20001) : Bd Rb Mb Nb (sA s a 2 v) nA nH := by
  obtain ⟨b1, b2, b3, b4⟩ := b
  refine ⟨?_, fun q hq => ?_, fun q hq => ?_, fun q h1 h2 i hi => ?_⟩
  · rw [gp_sA (by omega), gp_sA (by omega), gp_sA (by omega), gp_sA (by omega)]; exact b1
  · rw [ap_sA (by decide) (by decide), ap_sA (by decide) (by decide), ap_sA (by decide) (by decide), if_neg (by omega), if_neg (by omega)]
    refine ⟨(b2 q hq).1, (b2 q hq).2.1, ?_⟩
    split
    · exact hv
    · exact (b2 q hq).2.2
  · rw [hp_sA ha (by decide), hp_sA ha (by decide), hp_sA ha (by decide), hp_sA ha (by decide)]; exact b3 q hq
  · rw [hp_sA ha (by decide)]; exact b4 q h1 h2 i hi
/-- a cell of the row's head -/
theorem Bd.wG {g Rb' : Nat} (b : Bd Rb Mb Nb s nA nH) (hg : g = 1 ∧ vp_in v Rb' ∨ (3 < g ∧ g < 9) ∧ Rb ≤ Rb') : Bd Rb' Mb Nb (sG s g v) nA nH := by
  have g9 : g < 9 := by omega
  obtain ⟨b1, b2, b3, b4⟩ := b
  refine ⟨?_, fun q hq => ?_, fun q hq => ?_, fun q h1 h2 i hi => ?_⟩
  · rw [gp_sG, gp_sG, gp_sG, gp_sG, if_neg (by omega), if_neg (show ¬ 2 = g by omega), if_neg (show ¬ 3 = g by omega)]
    refine ⟨b1.1, ?_, b1.2.2⟩
    split
    · rename_i e; exact hg.elim (fun q => q.2) (fun q => absurd q.1.1 (by omega))
    · rename_i e; exact hg.elim (fun q => absurd q.1.symm e) (fun q => in_mono b1.2.1 q.2)
  · rw [ap_sG g9, ap_sG g9, ap_sG g9]; exact b2 q hq
  · rw [hp_sG g9, hp_sG g9, hp_sG g9, hp_sG g9]; exact b3 q hq
  · rw [hp_sG g9]; exact b4 q h1 h2 i hi
theorem pay_gp {r g : Nat} (hI : Iv s nA nH nR) (hrR : r < nR) (hg : g < 9) (h1 : ¬ g = 1) (h7 : ¬ g = 7) : gp (paysS s nR r).1 g = gp s g := by
  unfold paysS
  split
  · rw [gp_sR hg]
  · unfold payB
    dsimp only
    rw [giv_gp _ _ _ _ hg]
    refine lp_inv (fun _ (x : St × Int32 × Int32) => gp x.1 g = gp s g) (shaG r (price s r)) nR (fun i x hi hx => ?_) nR 0 _ (by omega) ?_
    · unfold shaG
      split
      · dsimp only; rw [giv_gp _ _ _ _ hg]; exact hx
      · exact hx
    · unfold payA
      dsimp only
      rw [gp_sR hg, gp_sR hg, gp_sG, if_neg h7, gp_sG, if_neg h1, gp_sA hg]
/-- one is paid, or waits -/
theorem Bd.pays {r : Nat} (hI : Iv s nA nH nR) (b : Bd Rb Mb Nb s nA nH) (hrR : r < nR) (hd : isDue s r) (hR : Rb < 100000000) (hM : Mb + 3744 < 2147483648) : Bd Rb (Mb + 3744) Nb (paysS s nR r).1 nA nH := by
  have h6 := hI.1.1.2
  have h8 := hI.1.2.1.2
  obtain ⟨h5, h4⟩ := due_none hI hrR hd
  obtain ⟨p, ep, p1, p2⟩ := price_n hI b hrR h4
  obtain ⟨a, haA, hra, ht⟩ := vin (hI.1.2.2.2 r hrR).2 (by omega)
  obtain ⟨q, hq, hq2, -⟩ := vin (b.2.1 a haA).2.2 (by omega)
  obtain ⟨g, hg, hg2⟩ := vp_in_of b.1.2.1 (by omega)
  unfold paysS
  rw [ht]
  split
  · exact (b.wR h6 h8).mono (Nat.le_refl _) (by omega) (Nat.le_refl _)
  · rename_i hc
    have hc2 : p ≤ q + g := by
      rw [hq2, hg2, ep, nI_add] at hc
      rcases Nat.lt_or_ge (q + g) p with z | z
      · exact absurd (nI_lt z (by omega)) hc
      · exact z
    have eo : ∃ w, ownS s a (price s r) = nI w ∧ w ≤ q ∧ w ≤ p ∧ p - w ≤ g := by
      unfold ownS
      rw [hq2, ep]
      by_cases z : q < p
      · rw [if_pos (nI_lt z (by omega))]; exact ⟨q, rfl, by omega, by omega, by omega⟩
      · rw [if_neg (nI_nlt (by omega) (by omega))]; exact ⟨p, rfl, by omega, by omega, by omega⟩
    obtain ⟨w, ew, w1, w2, w3⟩ := eo
    have hA : Bd Rb Mb Nb (payA s r a (price s r) (ownS s a (price s r))) nA nH := by
      unfold payA
      rw [ew, ep, hq2, hg2, pk_sub w1, pk_sub w2, pk_sub w3]
      exact ((((b.wA (by omega) (in_n (by omega) (by omega))).wG (Or.inl ⟨rfl, in_n (k := g - (p - w)) (by omega) (by omega)⟩)).wG (Or.inr ⟨by omega, Nat.le_refl _⟩)).wR h6 h8).wR h6 h8
    have hIA : Iv (payA s r a (price s r) (ownS s a (price s r))) nA nH nR := hI.payA hrR (by omega) hd
    generalize payA s r a (price s r) (ownS s a (price s r)) = y at hA hIA
    rw [ep]
    obtain ⟨k, hk, e1, e2, hb, hi⟩ := hA.shas (r := r) p2 hIA (by omega)
    obtain ⟨c, hc, -, hct⟩ := vin (hi.1.2.2.2 r hrR).1 (by omega)
    unfold payB
    dsimp only
    rw [hct, e2]
    exact (hb.give (m := 2880) h6 h8 hc (by omega) (by omega)).mono (Nat.le_refl _) (by omega) (Nat.le_refl _)
end BOUND

