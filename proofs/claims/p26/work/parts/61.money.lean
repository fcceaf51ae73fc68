/-! what payments and quarters do, place by place -/
def huS (s : St) (nH : Nat) : Int32 := sum (fun h => hp s h 0) nH
def M32 (s : St) (nA nH : Nat) : Int32 := gp s 1 + poolS s nA + huS s nH
def allS (s : St) (nA : Nat) : Int32 := sum (fun a => ap s a 1) nA
/-- only hunters' money may differ -/
def Mo (x y : St) : Prop := (∀ g, g < 9 → gp y g = gp x g) ∧ (∀ a j, a < 6 → j < 3 → ap y a j = ap x a j) ∧ (∀ r j, j < 12 → rp y r j = rp x r j) ∧ ∀ h j, h < 8 → j < 4 → j ≠ 0 → hp y h j = hp x h j
/-- some that are due are paid, or wait -/
def SS (nR : Nat) (x y : St) : Prop := (gp y 2 = gp x 2 ∧ gp y 3 = gp x 3) ∧ (∀ a, a < 6 → ap y a 0 = ap x a 0 ∧ ap y a 1 = ap x a 1) ∧ (∀ h j, h < 8 → j < 4 → j ≠ 0 → hp y h j = hp x h j) ∧
  ∀ q, q < nR → (∀ j, j < 12 → j ≠ 3 → j ≠ 8 → rp y q j = rp x q j) ∧ ((rp y q 3 = rp x q 3 ∧ rp y q 8 = rp x q 8) ∨ (isDue x q ∧ ¬ rp x q 6 = 1 ∧ (rp y q 3 = 2 ∧ rp y q 8 = rp x q 8 ∨ rp y q 3 = 3 ∧ rp y q 8 = price x q)))
def Qa (s : St) (a : Nat) : Prop := ∃ w q, ap s a 1 = nI w ∧ ap s a 2 = nI q ∧ w ≤ 10000 ∧ q ≤ 2 * w
section MONEY
variable {s x y z : St} {nA nH nR Rb Mb Nb N : Nat} {v p t : Int32}
theorem Mo.rf : Mo x x := ⟨fun _ _ => rfl, fun _ _ _ _ => rfl, fun _ _ _ => rfl, fun _ _ _ _ _ => rfl⟩
theorem Mo.tr (h : Mo x y) (k : Mo y z) : Mo x z :=
  ⟨fun g hg => (k.1 g hg).trans (h.1 g hg), fun a j ha hj => (k.2.1 a j ha hj).trans (h.2.1 a j ha hj), fun r j hj => (k.2.2.1 r j hj).trans (h.2.2.1 r j hj), fun a j ha hj h0 => (k.2.2.2 a j ha hj h0).trans (h.2.2.2 a j ha hj h0)⟩
theorem Mo.give {h : Nat} (hh : h < 8) : Mo s (giveS s h v) :=
  ⟨fun g hg => gp_sH hg, fun a j ha hj => ap_sH ha hj, fun r j hj => rp_sH hh (by decide), fun a j ha hj h0 => by
    unfold giveS
    rw [hp_sH hj (by decide), if_neg (by omega)]⟩
theorem hu_give {h : Nat} (hh : h < nH) : huS (giveS s h v) nH = huS s nH + v := by
  unfold huS
  refine sum_u nH hh (fun i hi hne => ?_) ?_
  · unfold giveS
    rw [hp_sH (by decide) (by decide), if_neg (by omega)]
  · unfold giveS
    rw [hp_sH (by decide) (by decide), if_pos ⟨rfl, rfl⟩]
theorem payB_all (hI : Iv s nA nH nR) {r : Nat} (hr : r < nR) (p : Int32) : Mo s (payB s nR r p) ∧ huS (payB s nR r p) nH = huS s nH + p := by
  have h8 := hI.1.2.1.2
  have := lp_inv (fun _ (x : St × Int32 × Int32) => (Mo s x.1 ∧ huS x.1 nH + x.2.1 = huS s nH + p) ∧ Iv x.1 nA nH nR) (shaG r p) nR (fun i x hi h => by
    refine ⟨?_, Iv.sha hi h.2⟩
    unfold shaG
    split
    · obtain ⟨b, hb, -, hbt⟩ := vin (h.2.1.2.2.2 i hi).1 (by omega)
      dsimp only
      rw [hbt]
      refine ⟨h.1.1.tr (Mo.give (by omega)), ?_⟩
      rw [hu_give hb, ← h.1.2]
      grind
    · exact h.1) nR 0 (s, p, 0) (by omega) ⟨⟨Mo.rf, rfl⟩, hI⟩
  obtain ⟨⟨h1, h2⟩, h3⟩ := this
  obtain ⟨c, hc, -, hct⟩ := vin (h3.1.2.2.2 r hr).1 (by omega)
  unfold payB
  rw [hct]
  exact ⟨h1.tr (Mo.give (by omega)), by rw [hu_give hc, h2]⟩
theorem SS.rf : SS nR x x := ⟨⟨rfl, rfl⟩, fun _ _ => ⟨rfl, rfl⟩, fun _ _ _ _ _ => rfl, fun _ _ => ⟨fun _ _ _ _ => rfl, Or.inl ⟨rfl, rfl⟩⟩⟩
theorem SS.pr (h : SS nR x y) (hT : Ty x nA nH nR) {q : Nat} (hq : q < nR) : price y q = price x q := by
  obtain ⟨a, haA, hra, ht⟩ := vin (hT.2.2.2 q hq).2 (by have := hT.1.2; omega)
  have ha : a < 6 := by have := hT.1.2; omega
  obtain ⟨⟨g2, -⟩, ga, -, gr⟩ := h
  unfold price prS
  rw [(gr q hq).1 1 (by decide) (by decide) (by decide), (gr q hq).1 4 (by decide) (by decide) (by decide), ht, (ga a ha).1, g2]
theorem SS.tr (h : SS nR x y) (hT : Ty x nA nH nR) (k : SS nR y z) : SS nR x z := by
  have hp := fun q (hq : q < nR) => h.pr hT hq
  obtain ⟨⟨a1, a2⟩, b, c, d⟩ := h
  obtain ⟨⟨a1', a2'⟩, b', c', d'⟩ := k
  refine ⟨⟨a1'.trans a1, a2'.trans a2⟩, fun a ha => ⟨(b' a ha).1.trans (b a ha).1, (b' a ha).2.trans (b a ha).2⟩, fun h j hh hj h0 => (c' h j hh hj h0).trans (c h j hh hj h0), fun q hq => ⟨fun j hj h3 h8 => ((d' q hq).1 j hj h3 h8).trans ((d q hq).1 j hj h3 h8), ?_⟩⟩
  have e6 := (d q hq).1 6 (by decide) (by decide) (by decide)
  rcases (d' q hq).2 with ⟨u, w⟩ | ⟨u, w, t⟩
  · rw [u, w]; exact (d q hq).2
  · refine Or.inr ?_
    rw [e6] at w
    rcases (d q hq).2 with ⟨u', w'⟩ | ⟨u', w', t'⟩
    · refine ⟨?_, w, ?_⟩
      · unfold isDue at u ⊢; rw [u'] at u; exact u
      · rw [w', hp q hq] at t; exact t
    · refine ⟨u', w', ?_⟩
      rcases t' with ⟨t1, t2⟩ | ⟨t1, t2⟩
      · rw [t2, hp q hq] at t; exact t
      · unfold isDue at u
        rw [t1] at u
        rcases u with u | u <;> exact absurd u (by decide)
theorem pool_u {a : Nat} (haA : a < nA) (h6 : nA ≤ 6) {d : Int32} (h : ∀ b, b < nA → b ≠ a → ap y b 2 = ap x b 2) (h2 : ap y a 2 = ap x a 2 + d) : poolS y nA = poolS x nA + d := sum_u nA haA h h2
/-- of one that is due -/
theorem pays_all (hI : Iv s nA nH nR) (b : Bd Rb Mb Nb s nA nH) (hR : Rb < 100000000) {r : Nat} (hrR : r < nR) (hd : isDue s r) (hap : ¬ rp s r 6 = 1) (hQ : ∀ a, a < nA → Qa s a) :
    SS nR s (paysS s nR r).1 ∧ M32 (paysS s nR r).1 nA nH = M32 s nA nH ∧ (huS (paysS s nR r).1 nH = huS s nH + (paysS s nR r).2 ∧ gp (paysS s nR r).1 7 = gp s 7 + (paysS s nR r).2 ∧ gp (paysS s nR r).1 8 = gp s 8) ∧ (∀ a, a < nA → Qa (paysS s nR r).1 a) ∧ ((rp (paysS s nR r).1 r 3 = 2 ∧ (paysS s nR r).2 = 0) ∨ (rp (paysS s nR r).1 r 3 = 3 ∧ rp (paysS s nR r).1 r 8 = price s r ∧ (paysS s nR r).2 = price s r)) ∧ (∀ q, q ≠ r → rp (paysS s nR r).1 q 3 = rp s q 3) := by
  have h6 := hI.1.1.2
  have h8 := hI.1.2.1.2
  have h40 := hI.1.2.2.1.2
  have hr : r < 40 := by omega
  obtain ⟨a, haA, hra, ht⟩ := vin (hI.1.2.2.2 r hrR).2 (by omega)
  have ha : a < 6 := by omega
  unfold paysS
  rw [ht]
  split
  · dsimp only
    refine ⟨⟨⟨gp_sR (by decide), gp_sR (by decide)⟩, fun a ha => ⟨ap_sR ha (by decide), ap_sR ha (by decide)⟩, fun h j hh hj h0 => hp_sR hh hj, fun q hq => ⟨fun j hj h3 _ => by rw [rp_sR hj (by decide), if_neg (fun z => h3 z.2)], ?_⟩⟩, ?_, ⟨?_, ?_, gp_sR (by decide)⟩, fun a ha => ?_, Or.inl ⟨by rw [rp_sR (by decide) (by decide), if_pos ⟨rfl, rfl⟩], rfl⟩, fun q hq => by rw [rp_sR (by decide) (by decide), if_neg (fun z => hq z.1)]⟩
    · by_cases e : q = r
      · subst e
        exact Or.inr ⟨hd, hap, Or.inl ⟨by rw [rp_sR (by decide) (by decide), if_pos ⟨rfl, rfl⟩], by rw [rp_sR (by decide) (by decide), if_neg (by omega)]⟩⟩
      · exact Or.inl ⟨by rw [rp_sR (by decide) (by decide), if_neg (fun z => e z.1)], by rw [rp_sR (by decide) (by decide), if_neg (fun z => e z.1)]⟩
    · have e1 : poolS (sR s r 3 2) nA = poolS s nA := sum_c nA (fun i hi => ap_sR (by omega) (by decide))
      have e2 : huS (sR s r 3 2) nH = huS s nH := sum_c nH (fun i hi => hp_sR (by omega) (by decide))
      unfold M32
      rw [e1, e2, gp_sR (by decide)]
    · have e2 : huS (sR s r 3 2) nH = huS s nH := sum_c nH (fun i hi => hp_sR (by omega) (by decide))
      rw [e2, Int32.add_zero]
    · rw [gp_sR (by decide), Int32.add_zero]
    · have := hQ a ha
      unfold Qa at this ⊢
      rw [ap_sR (by omega) (by decide), ap_sR (by omega) (by decide)]
      exact this
  · rename_i hc
    dsimp only
    have hA := hI.payA (p := price s r) (own := ownS s a (price s r)) hrR ha hd
    obtain ⟨⟨m1, m2, m3, m4⟩, m5⟩ := payB_all hA hrR (price s r)
    obtain ⟨w, q0, w1, q1, w2, q2⟩ := hQ a haA
    obtain ⟨h5, h4⟩ := due_none hI hrR hd
    obtain ⟨p, ep, p1, p2⟩ := price_n hI b hrR h4
    have eo : ∃ k, ownS s a (price s r) = nI k ∧ k ≤ q0 := by
      unfold ownS
      rw [q1, ep]
      by_cases z : q0 < p
      · rw [if_pos (nI_lt z (by omega))]; exact ⟨q0, rfl, by omega⟩
      · rw [if_neg (nI_nlt (by omega) (by omega))]; exact ⟨p, rfl, by omega⟩
    obtain ⟨k, ek, k1⟩ := eo
    have ag : ∀ g, g < 9 → gp (payA s r a (price s r) (ownS s a (price s r))) g = if g = 7 then gp s 7 + price s r else if g = 1 then gp s 1 - (price s r - ownS s a (price s r)) else gp s g := fun g hg => by
      unfold payA
      rw [gp_sR hg, gp_sR hg, gp_sG, gp_sG, gp_sA hg]
    have aa : ∀ c j, c < 6 → j < 3 → ap (payA s r a (price s r) (ownS s a (price s r))) c j = if c = a ∧ j = 2 then ap s a 2 - ownS s a (price s r) else ap s c j := fun c j hc hj => by
      unfold payA
      rw [ap_sR hc hj, ap_sR hc hj, ap_sG (by decide), ap_sG (by decide), ap_sA hj (by decide)]
    have ah : ∀ h j, h < 8 → j < 4 → hp (payA s r a (price s r) (ownS s a (price s r))) h j = hp s h j := fun h j hh hj => by
      unfold payA
      rw [hp_sR hh hj, hp_sR hh hj, hp_sG (by decide), hp_sG (by decide), hp_sA ha (by decide)]
    have ar : ∀ q j, j < 12 → rp (payA s r a (price s r) (ownS s a (price s r))) q j = if q = r ∧ j = 8 then price s r else if q = r ∧ j = 3 then 3 else rp s q j := fun q j hj => by
      unfold payA
      rw [rp_sR hj (by decide), rp_sR hj (by decide), rp_sG (by decide), rp_sG (by decide), rp_sA ha (by decide)]
    generalize payA s r a (price s r) (ownS s a (price s r)) = y at hA m1 m2 m3 m4 m5 ag aa ah ar
    have hpool : poolS (payB y nR r (price s r)) nA = poolS s nA + (0 - ownS s a (price s r)) := pool_u haA h6 (fun c hc hne => by rw [m2 c 2 (by omega) (by decide), aa c 2 (by omega) (by decide), if_neg (fun z => hne z.1)]) (by
      rw [m2 a 2 ha (by decide), aa a 2 ha (by decide), if_pos ⟨rfl, rfl⟩]
      grind)
    have hhu : huS (payB y nR r (price s r)) nH = huS s nH + price s r := by
      rw [m5]
      exact congrArg (fun z => z + price s r) (sum_c nH (fun i hi => ah i 0 (by omega) (by decide)))
    refine ⟨⟨⟨by rw [m1 2 (by decide), ag 2 (by decide), if_neg (by decide), if_neg (by decide)], by rw [m1 3 (by decide), ag 3 (by decide), if_neg (by decide), if_neg (by decide)]⟩, fun c hc => ⟨by rw [m2 c 0 hc (by decide), aa c 0 hc (by decide), if_neg (fun z => absurd z.2 (by decide))], by rw [m2 c 1 hc (by decide), aa c 1 hc (by decide), if_neg (fun z => absurd z.2 (by decide))]⟩, fun h j hh hj h0 => by rw [m4 h j hh hj h0, ah h j hh hj], fun q hq => ⟨fun j hj h3 h8 => by rw [m3 q j hj, ar q j hj, if_neg (fun z => h8 z.2), if_neg (fun z => h3 z.2)], ?_⟩⟩, ?_, ⟨hhu, by rw [m1 7 (by decide), ag 7 (by decide), if_pos rfl], by rw [m1 8 (by decide), ag 8 (by decide), if_neg (by decide), if_neg (by decide)]⟩, fun c hc => ?_, Or.inr ⟨by rw [m3 r 3 (by decide), ar r 3 (by decide), if_neg (by omega), if_pos ⟨rfl, rfl⟩], by rw [m3 r 8 (by decide), ar r 8 (by decide), if_pos ⟨rfl, rfl⟩], rfl⟩, fun q hq => by rw [m3 q 3 (by decide), ar q 3 (by decide), if_neg (fun z => hq z.1), if_neg (fun z => hq z.1)]⟩
    · by_cases e : q = r
      · subst e
        exact Or.inr ⟨hd, hap, Or.inr ⟨by rw [m3 q 3 (by decide), ar q 3 (by decide), if_neg (by omega), if_pos ⟨rfl, rfl⟩], by rw [m3 q 8 (by decide), ar q 8 (by decide), if_pos ⟨rfl, rfl⟩]⟩⟩
      · exact Or.inl ⟨by rw [m3 q 3 (by decide), ar q 3 (by decide), if_neg (fun z => e z.1), if_neg (fun z => e z.1)], by rw [m3 q 8 (by decide), ar q 8 (by decide), if_neg (fun z => e z.1), if_neg (fun z => e z.1)]⟩
    · unfold M32
      rw [hpool, hhu, m1 1 (by decide), ag 1 (by decide), if_neg (by decide), if_pos rfl]
      grind
    · by_cases e : c = a
      · subst e
        refine ⟨w, q0 - k, ?_, ?_, w2, by omega⟩
        · rw [m2 c 1 ha (by decide), aa c 1 ha (by decide), if_neg (fun z => absurd z.2 (by decide))]; exact w1
        · rw [m2 c 2 ha (by decide), aa c 2 ha (by decide), if_pos ⟨rfl, rfl⟩, q1, ek, pk_sub k1]
      · obtain ⟨w', q', e1, e2, e3, e4⟩ := hQ c hc
        refine ⟨w', q', ?_, ?_, e3, e4⟩
        · rw [m2 c 1 (by omega) (by decide), aa c 1 (by omega) (by decide), if_neg (fun z => e z.1)]; exact e1
        · rw [m2 c 2 (by omega) (by decide), aa c 2 (by omega) (by decide), if_neg (fun z => e z.1)]; exact e2
end MONEY
