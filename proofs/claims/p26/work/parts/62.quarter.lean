/-! a quarter; quarters -/
section QUART
variable {s x y z : St} {nA nH nR Rb Mb Nb N : Nat} {v p t : Int32}
theorem al_all (hI : Iv s nA nH nR) {a : Nat} (haA : a < nA) (hQ : ∀ a, a < nA → Qa s a) :
    SS nR s (alG a s) ∧ M32 (alG a s) nA nH = M32 s nA nH + ap s a 1 ∧ (huS (alG a s) nH = huS s nH ∧ gp (alG a s) 7 = gp s 7 ∧ gp (alG a s) 8 = gp s 8) ∧ (∀ c, c < nA → Qa (alG a s) c) ∧ (∀ q, rp (alG a s) q 3 = rp s q 3) := by
  have h6 := hI.1.1.2
  have h8 := hI.1.2.1.2
  have ha : a < 6 := by omega
  obtain ⟨w, q, w1, q1, w2, q2⟩ := hQ a haA
  have eo : ∃ k, staS s a = nI k ∧ k ≤ w := by
    unfold staS
    rw [q1, w1]
    by_cases z : q < w
    · rw [if_pos (nI_lt z (by omega))]; exact ⟨q, rfl, by omega⟩
    · rw [if_neg (nI_nlt (by omega) (by omega))]; exact ⟨w, rfl, by omega⟩
  obtain ⟨k, ek, k1⟩ := eo
  have er : ∀ q j, rp (alG a s) q j = rp s q j := fun q j => by unfold alG; rw [rp_sA ha (by decide), rp_sG (by decide)]
  have eh : ∀ h j, h < 8 → j < 4 → hp (alG a s) h j = hp s h j := fun h j hh hj => by unfold alG; rw [hp_sA ha (by decide), hp_sG (by decide)]
  have ea : ∀ c j, c < 6 → j < 3 → ap (alG a s) c j = if c = a ∧ j = 2 then staS s a + ap s a 1 else ap s c j := fun c j hc hj => by unfold alG; rw [ap_sA hj (by decide), ap_sG (by decide)]
  have eg : ∀ g, g < 9 → gp (alG a s) g = if g = 1 then gp s 1 + (ap s a 2 - staS s a) else gp s g := fun g hg => by unfold alG; rw [gp_sA hg, gp_sG]
  generalize alG a s = y at er eh ea eg
  refine ⟨⟨⟨by rw [eg 2 (by decide), if_neg (by decide)], by rw [eg 3 (by decide), if_neg (by decide)]⟩, fun c hc => ⟨by rw [ea c 0 hc (by decide), if_neg (fun z => absurd z.2 (by decide))], by rw [ea c 1 hc (by decide), if_neg (fun z => absurd z.2 (by decide))]⟩, fun h j hh hj _ => eh h j hh hj, fun q _ => ⟨fun j _ _ _ => er q j, Or.inl ⟨er q 3, er q 8⟩⟩⟩, ?_, ⟨sum_c nH (fun i hi => eh i 0 (by omega) (by decide)), by rw [eg 7 (by decide), if_neg (by decide)], by rw [eg 8 (by decide), if_neg (by decide)]⟩, fun c hc => ?_, fun q => er q 3⟩
  · have e1 : huS y nH = huS s nH := sum_c nH (fun i hi => eh i 0 (by omega) (by decide))
    have e2 : poolS y nA = poolS s nA + (staS s a + ap s a 1 - ap s a 2) := pool_u haA h6 (fun c hc hne => by rw [ea c 2 (by omega) (by decide), if_neg (fun z => hne z.1)]) (by
      rw [ea a 2 ha (by decide), if_pos ⟨rfl, rfl⟩]
      grind)
    unfold M32
    rw [e1, e2, eg 1 (by decide), if_pos rfl]
    grind
  · by_cases e : c = a
    · subst e
      refine ⟨w, k + w, ?_, ?_, w2, by omega⟩
      · rw [ea c 1 ha (by decide), if_neg (fun z => absurd z.2 (by decide))]; exact w1
      · rw [ea c 2 ha (by decide), if_pos ⟨rfl, rfl⟩, ek, w1, nI_add]
    · obtain ⟨w', q', e1, e2, e3, e4⟩ := hQ c hc
      refine ⟨w', q', ?_, ?_, e3, e4⟩
      · rw [ea c 1 (by omega) (by decide), if_neg (fun z => e z.1)]; exact e1
      · rw [ea c 2 (by omega) (by decide), if_neg (fun z => e z.1)]; exact e2
theorem SS.al (h : SS nR x y) (h6 : nA ≤ 6) : allS y nA = allS x nA := sum_c nA (fun i hi => (h.2.1 i (by omega)).2)
theorem als_all (hI : Iv s nA nH nR) (hQ : ∀ a, a < nA → Qa s a) :
    SS nR s (lp alG 0 nA s) ∧ M32 (lp alG 0 nA s) nA nH = M32 s nA nH + allS s nA ∧ (huS (lp alG 0 nA s) nH = huS s nH ∧ gp (lp alG 0 nA s) 7 = gp s 7 ∧ gp (lp alG 0 nA s) 8 = gp s 8) ∧ (∀ c, c < nA → Qa (lp alG 0 nA s) c) ∧ (∀ q, rp (lp alG 0 nA s) q 3 = rp s q 3) := by
  have h6 := hI.1.1.2
  have := lp_inv (fun i x => Iv x nA nH nR ∧ SS nR s x ∧ M32 x nA nH = M32 s nA nH + sum (fun a => ap s a 1) i ∧ (huS x nH = huS s nH ∧ gp x 7 = gp s 7 ∧ gp x 8 = gp s 8) ∧ (∀ c, c < nA → Qa x c) ∧ (∀ q, rp x q 3 = rp s q 3)) alG nA (fun i x hi h => by
    obtain ⟨i1, i2, i3, ⟨i4, i5, i6⟩, i7, i8⟩ := h
    obtain ⟨j2, j3, ⟨j4, j5, j6⟩, j7, j8⟩ := al_all i1 hi i7
    refine ⟨Iv.al hi i1, i2.tr hI.1 j2, ?_, ⟨j4.trans i4, j5.trans i5, j6.trans i6⟩, j7, fun q => (j8 q).trans (i8 q)⟩
    rw [j3, i3, sum_s, (i2.2.1 i (by omega)).2, Int32.add_assoc]) nA 0 s (by omega) ⟨hI, SS.rf, by show _ = _ + 0; rw [Int32.add_zero], ⟨rfl, rfl, rfl⟩, hQ, fun _ => rfl⟩
  exact this.2
/-- what a quarter has done -/
def Qd (nA nH nR k : Nat) (s y : St) (t : Int32) : Prop := SS nR s y ∧ M32 y nA nH = M32 s nA nH + nI k * allS s nA ∧ (huS y nH + gp s 7 = huS s nH + gp y 7 ∧ gp y 8 = gp s 8) ∧ (∀ c, c < nA → Qa y c) ∧ (cntS y nR 2 + t = cntS s nR 2 ∧ cntS y nR 3 = cntS s nR 3 + t) ∧ (∃ c, t = nI c ∧ c ≤ 40 * k) ∧ ∃ e, gp y 7 = gp s 7 + nI e ∧ e ≤ 115200 * k
theorem Qd.tr {k l : Nat} {u : Int32} (h : Qd nA nH nR k s x t) (hT : Ty s nA nH nR) (g : Qd nA nH nR l x y u) : Qd nA nH nR (k + l) s y (t + u) := by
  obtain ⟨a1, a2, ⟨a3, a4⟩, a5, ⟨a6, a7⟩, ⟨c, a8, a9⟩, e, a10, a11⟩ := h
  obtain ⟨b1, b2, ⟨b3, b4⟩, b5, ⟨b6, b7⟩, ⟨d, b8, b9⟩, f, b10, b11⟩ := g
  refine ⟨a1.tr hT b1, ?_, ⟨?_, b4.trans a4⟩, b5, ⟨?_, ?_⟩, ⟨c + d, by rw [a8, b8, nI_add], by omega⟩, e + f, ?_, by omega⟩
  · rw [b2, a2, a1.al hT.1.2, ← nI_add]
    grind
  · grind
  · grind
  · grind
  · rw [b10, a10, ← nI_add, Int32.add_assoc]
theorem cnt_u {r : Nat} (hr : r < nR) {k c d : Int32} (h : ∀ q, q < nR → q ≠ r → rp y q 3 = rp x q 3) (h2 : (if rp y r 3 = k then (1 : Int32) else 0) = (if rp x r 3 = k then 1 else 0) + d) : cntS y nR k = cntS x nR k + d :=
  sum_u nR hr (fun i hi hne => by rw [h i hi hne]) h2
theorem beg_all (hI : Iv s nA nH nR) (b : Bd Rb Mb Nb s nA nH) (hR : Rb + 120000 < 100000000) (hM : Mb + 149760 < 2147483648) (hQ : ∀ a, a < nA → Qa s a) : Qd nA nH nR 1 s (begS s nA nR).1 (begS s nA nR).2 := by
  have h40 := hI.1.2.2.1.2
  have h6 := hI.1.1.2
  obtain ⟨a2, a3, ⟨a4, a5, a6⟩, a7, a8⟩ := als_all hI hQ
  have iA := hI.als
  have bA := b.als hI hR
  unfold begS
  generalize lp alG 0 nA s = w at a2 a3 a4 a5 a6 a7 a8 iA bA
  have := lp_inv (fun i (x : St × Int32) => (Bd (Rb + 120000) (Mb + 3744 * i) Nb x.1 nA nH ∧ Iv x.1 nA nH nR) ∧ SS nR w x.1 ∧ M32 x.1 nA nH = M32 w nA nH ∧ (huS x.1 nH + gp w 7 = huS w nH + gp x.1 7 ∧ gp x.1 8 = gp w 8) ∧ (∀ c, c < nA → Qa x.1 c) ∧ (cntS x.1 nR 2 + x.2 = cntS w nR 2 ∧ cntS x.1 nR 3 = cntS w nR 3 + x.2) ∧ (∃ c, x.2 = nI c ∧ c ≤ i) ∧ ∃ e, gp x.1 7 = gp w 7 + nI e ∧ e ≤ 2880 * i) (begG nR) nR (fun i x hi h => by
    obtain ⟨⟨b1, i1⟩, i2, i3, ⟨i4, i5⟩, i7, ⟨i8, i9⟩, ⟨c, ec, hc⟩, e, ee, he⟩ := h
    refine ⟨⟨?_, i1.beg hi⟩, ?_⟩
    · unfold begG
      split
      · rename_i hc
        exact (b1.pays i1 hi (Or.inr hc.1) (by omega) (by omega)).mono (Nat.le_refl _) (by omega) (Nat.le_refl _)
      · exact b1.mono (Nat.le_refl _) (by omega) (Nat.le_refl _)
    · unfold begG
      split
      · rename_i hc
        obtain ⟨j2, j3, ⟨j4, j5, j6⟩, j7, j8, j9⟩ := pays_all i1 b1 (by omega) hi (Or.inr hc.1) hc.2 i7
        dsimp only
        have hdq : isDue x.1 i := Or.inr hc.1
        obtain ⟨p, ep, p1, p2⟩ := price_n i1 b1 hi (due4 (i1.2 i hi) hdq)
        rcases j8 with ⟨k1, k2⟩ | ⟨k1, k2, k3⟩
        · rw [k2] at j4 j5 ⊢
          refine ⟨i2.tr iA.1 j2, j3.trans i3, ⟨?_, j6.trans i5⟩, j7, ?_, ⟨c, ?_, by omega⟩, e, ?_, by omega⟩
          · rw [j4, j5]; grind
          · have e2 : ∀ k, cntS (paysS x.1 nR i).1 nR k = cntS x.1 nR k := fun k => sum_c nR (fun q hq => by
              by_cases eq : q = i
              · rw [eq, k1, hc.1]
              · rw [j9 q eq])
            rw [e2, e2, if_neg (by decide), Int32.add_zero]
            exact ⟨i8, i9⟩
          · rw [if_neg (by decide), Int32.add_zero, ec]
          · rw [j5, ee, Int32.add_zero]
        · have hpos : (0 : Int32) < (paysS x.1 nR i).2 := by rw [k3, ep]; exact nI_lt (a := 0) (by omega) (by omega)
          rw [if_pos hpos]
          refine ⟨i2.tr iA.1 j2, j3.trans i3, ⟨?_, j6.trans i5⟩, j7, ⟨?_, ?_⟩, ⟨c + 1, by rw [ec, nI_1], by omega⟩, e + p, ?_, by omega⟩
          · rw [j4, j5]; grind
          · rw [cnt_u (d := 0 - 1) (c := 0) hi (fun q hq hne => j9 q hne) (by rw [k1, hc.1]; decide), ← i8]
            grind
          · rw [cnt_u (d := 1) (c := 0) hi (fun q hq hne => j9 q hne) (by rw [k1, hc.1]; decide), i9]
            grind
          · rw [j5, k3, ee, ep, ← nI_add, Int32.add_assoc]
      · exact ⟨i2, i3, ⟨i4, i5⟩, i7, ⟨i8, i9⟩, ⟨c, ec, by omega⟩, e, ee, by omega⟩) nR 0 (w, 0) (by omega) ⟨⟨bA, iA⟩, SS.rf, rfl, ⟨rfl, rfl⟩, a7, ⟨Int32.add_zero _, (Int32.add_zero _).symm⟩, ⟨0, rfl, by omega⟩, 0, (Int32.add_zero _).symm, by omega⟩
  generalize lp (begG nR) 0 nR (w, 0) = y at this
  obtain ⟨-, i2, i3, ⟨i4, i5⟩, i7, ⟨i8, i9⟩, ⟨c, ec, hc⟩, e, ee, he⟩ := this
  have ecnt : ∀ k, cntS w nR k = cntS s nR k := fun k => sum_c nR (fun q hq => by rw [a8 q])
  refine ⟨a2.tr hI.1 i2, ?_, ⟨?_, i5.trans a6⟩, i7, ⟨by rw [i8, ecnt], by rw [i9, ecnt]⟩, ⟨c, ec, by omega⟩, e, ?_, by omega⟩
  · rw [i3, a3]
    show _ = _ + (1 : Int32) * _
    rw [Int32.one_mul]
  · rw [a4, a5] at i4; exact i4
  · rw [ee, a5]
theorem Qd.rf (h : ∀ c, c < nA → Qa s c) : Qd nA nH nR 0 s s 0 := ⟨SS.rf, by show _ = _ + (0 : Int32) * _; rw [Int32.zero_mul, Int32.add_zero], ⟨rfl, rfl⟩, h, ⟨Int32.add_zero _, (Int32.add_zero _).symm⟩, ⟨0, rfl, by omega⟩, 0, (Int32.add_zero _).symm, by omega⟩
theorem qs_all (hI : Iv s nA nH nR) (b : Bd Rb Mb Nb s nA nH) (n : Nat) (hR : Rb + 120000 * n < 100000000) (hM : Mb + 149760 * n < 2147483648) (hQ : ∀ a, a < nA → Qa s a) : Qd nA nH nR n s (lp (qG nA nR) 0 n (s, 0)).1 (lp (qG nA nR) 0 n (s, 0)).2 := by
  have := lp_inv (fun i (x : St × Int32) => (Bd (Rb + 120000 * i) (Mb + 149760 * i) Nb x.1 nA nH ∧ Iv x.1 nA nH nR) ∧ Qd nA nH nR i s x.1 x.2) (qG nA nR) n (fun i x hi h => by
    refine ⟨⟨(h.1.1.begs h.1.2 (by omega) (by omega)).mono (by omega) (by omega) (Nat.le_refl _), h.1.2.begs⟩, ?_⟩
    exact h.2.tr hI.1 (beg_all h.1.2 h.1.1 (by omega) (by omega) h.2.2.2.2.1)) n 0 (s, 0) (by omega) ⟨⟨b, hI⟩, Qd.rf hQ⟩
  exact this.2
end QUART
