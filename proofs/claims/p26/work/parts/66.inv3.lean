/-! behind a retest -/
section INV3
variable {s x y z : St} {nA nH nR nA' nH' nR' Rb Mb Nb N : Nat} {v p t : Int32}
theorem und_none {r : Nat} (hr : r < 1000) : undS (unfS s nR r).1 nR r = 0 := by
  have e := (unf_all s nR r).1
  refine sum_0 nR (fun q hq => if_neg ?_)
  rintro ⟨u1, u2⟩
  by_cases hu : under s r q
  · rw [e q 3 (by decide), if_pos ⟨hq, hu⟩, if_neg (by decide), if_pos rfl] at u1
    exact absurd u1 (by decide)
  · rw [e q 3 (by decide), if_neg (fun z => hu z.2)] at u1
    rw [e q 5 (by decide), if_neg (fun z => hu z.2)] at u2
    exact hu ⟨u1, u2⟩
theorem Fo.c4 (h : Fo s nR) (e : ∀ q, q < nR → rp y q 1 = rp s q 1 ∧ rp y q 2 = rp s q 2 ∧ rp y q 3 = rp s q 3 ∧ rp y q 5 = rp s q 5) : Fo y nR :=
  h.rel (fun q hq => ⟨(e q hq).1, (e q hq).2.1⟩) (fun q hq h5 => ⟨by rw [← (e q hq).2.2.1]; exact h5, (e q hq).2.2.2⟩) (fun q hq g => Or.inl (by rw [(e q hq).2.2.1]; exact g)) (fun q hq g => by rw [(e q hq).2.2.1]; exact g)
theorem g8_in (h1 : FI N s nA nH nR) (h : vp_in (gp s 8) (4000 * N + 1)) (hN : N < 400) {w v : Int32} {g : Nat} (ew : onS w = nI g) (hg : g ≤ 2) (hv : v = gp s 8 ∨ v = gp s 8 + onS w * gp s 3) : vp_in v (4000 * (N + 1) + 1) := by
  obtain ⟨b, hb, eb, -⟩ := vin h1.2.1.2.2.2 (by omega)
  obtain ⟨i, hi, ei⟩ := vp_in_of h (by omega)
  have hm : g * b ≤ 2 * 500 := Nat.mul_le_mul hg (by omega)
  rcases hv with e | e
  · rw [e]; exact in_mono h (by omega)
  · rw [e, ew, eb, ei, pk_mul, nI_add]
    exact in_n (by omega) (by omega)
theorem n_lt2 {g : Nat} (h : g ≤ 2) : (nI g < 2) = (g < 2) := lt_iff (n := 2) (by omega) (by omega)
/-- told that it is gone -/
theorem retG_all (h : PI N s nA nH nR) (hN : N < 400) {c r : Nat} (hc : c < nH) (hr : r < nR) (hcan : canRt s nR c r) (hF : FI (N + 1) (retG s nH c r).1 nA nH nR) :
    PI (N + 1) (retG s nH c r).1 nA nH nR ∧ M32 (retG s nH c r).1 nA nH = M32 s nA nH ∧ ((retG s nH c r).2 = 0 ∧ onS (rp (retG s nH c r).1 r 10) = onS (rp s r 10) + 1 ∧ rp (retG s nH c r).1 r 11 = rp s r 11 ∨ (retG s nH c r).2 = 1 ∧ onS (rp s r 10) = 1 ∧ rp (retG s nH c r).1 r 9 = 1) := by
  have hcl := h
  obtain ⟨h1, h2, h3, h4, h5⟩ := h
  have h6 := h1.1.1.1.2
  have h8 := h1.1.1.2.1.2
  have h40 := h1.1.1.2.2.1.2
  have hr40 : r < 40 := by omega
  have hc8 : c < 8 := by omega
  obtain ⟨c3, c9, cb, -⟩ := hcan
  have q10 := (h1.1.2 r hr).2.1.2.1
  have q11 := (h1.1.2 r hr).2.1.2.2
  obtain ⟨b10, b11⟩ := bit_or q10 q11 hc8 cb
  obtain ⟨t1, t2⟩ := tel_all q10 hc8 b10
  have t3 : vp_in (rp s r 10 ||| ((1 : Int32) <<< (nI c &&& 31))) 256 := or_on q10 hc8
  obtain ⟨ra, rb, rc, ⟨g, t, eg, et, g2, tt, g9, -⟩, re⟩ := h3 r hr
  have g1 := g9 c9
  have tele : tel s r 10 c = rp s r 10 ||| ((1 : Int32) <<< (nI c &&& 31)) := rfl
  unfold retG at hF ⊢
  rw [tele] at hF ⊢
  generalize rp s r 10 ||| ((1 : Int32) <<< (nI c &&& 31)) = w at t1 t2 t3 hF ⊢
  have ew : onS w = nI (g + 1) := by rw [t1, eg, nI_1]
  have hz : ∀ k, nH ≤ k → k < 8 → ¬ bitS w k := fun k hk hk8 q => by
    rcases t2 k hk8 q with e | e
    · omega
    · exact (re k hk hk8).1 e
  have er : ∀ q j, j < 12 → rp (sR s r 10 w) q j = if q = r ∧ j = 10 then w else rp s q j := fun q j hj => rp_sR hj (by decide)
  have e10 : rp (sR s r 10 w) r 10 = w := by rw [er r 10 (by decide), if_pos ⟨rfl, rfl⟩]
  have eo : ∀ q, q ≠ r → ∀ j, j < 12 → rp (sR s r 10 w) q j = rp s q j := fun q hq j hj => by rw [er q j hj, if_neg (fun z => hq z.1)]
  have ej : ∀ q j, j < 12 → j ≠ 10 → rp (sR s r 10 w) q j = rp s q j := fun q j hj b => by rw [er q j hj, if_neg (fun z => b z.2)]
  have m1 : M32 (sR s r 10 w) nA nH = M32 s nA nH := by
    have e1 : poolS (sR s r 10 w) nA = poolS s nA := sum_c nA (fun i hi => ap_sR (by omega) (by decide))
    have e2 : huS (sR s r 10 w) nH = huS s nH := sum_c nH (fun i hi => hp_sR (by omega) (by decide))
    unfold M32
    rw [e1, e2, gp_sR (by decide)]
  have fo1 : Fo (sR s r 10 w) nR := h2.rel (fun q _ => ⟨ej q 1 (by decide) (by decide), ej q 2 (by decide) (by decide)⟩) (fun q _ h5 => ⟨by rw [← ej q 3 (by decide) (by decide)]; exact h5, ej q 5 (by decide) (by decide)⟩) (fun q _ g => Or.inl (by rw [ej q 3 (by decide) (by decide)]; exact g)) (fun q _ g => by rw [ej q 3 (by decide) (by decide)]; exact g)
  by_cases hlt : onS w < 2
  · rw [if_pos hlt] at hF ⊢
    dsimp only at hF ⊢
    have gz : g = 0 := by
      rw [ew, n_lt2 (by omega)] at hlt
      omega
    refine ⟨hcl.wR (r := r) (fun k hk => sR_lo hk) eo hF fo1 (fun _ => ?_), m1, Or.inl ⟨rfl, by rw [e10]; exact t1, ej r 11 (by decide) (by decide)⟩⟩
    refine ⟨fun q => ?_, fun q => ?_, fun q => ?_, ⟨g + 1, t, by rw [e10]; exact ew, by rw [ej r 11 (by decide) (by decide)]; exact et, by omega, tt, fun _ => by omega, fun q => ?_⟩, fun k hk hk8 => ?_⟩
    · rw [ej r 3 (by decide) (by decide)] at q; exact absurd c3 q
    · rw [ej r 8 (by decide) (by decide)]; exact rb c3
    · rw [ej r 6 (by decide) (by decide)] at q; rw [ej r 3 (by decide) (by decide)]; exact rc q
    · rw [ej r 9 (by decide) (by decide), c9] at q; exact absurd q (by decide)
    · rw [e10, ej r 11 (by decide) (by decide)]; exact ⟨hz k hk hk8, (re k hk hk8).2⟩
  · rw [if_neg hlt] at hF ⊢
    dsimp only at hF ⊢
    have gz : g = 1 := by
      rw [ew, n_lt2 (by omega)] at hlt
      omega
    have hs : ¬ (rp s r 3 = 0 ∨ rp s r 3 = 5) := by rw [c3]; decide
    have hI1 : Iv (sR s r 10 w) nA nH nR := h1.1.wR hr40 (by decide) (by decide) (by decide) (fun _ => (h1.1.2 r hr).w10 t3 hs)
    obtain ⟨b1, ⟨b2, b3⟩, b4, b5, b6⟩ := bon_all hI1 t3 hz
    have brp := fun q j => bon_rp (sR s r 10 w) h8 w q j
    generalize bonS (sR s r 10 w) nH w = y at hF b1 b2 b3 b4 b5 b6 brp ⊢
    have er2 : ∀ q j, j < 12 → rp (sR y r 9 1) q j = if q = r ∧ j = 9 then 1 else rp (sR s r 10 w) q j := fun q j hj => by rw [rp_sR hj (by decide), brp]
    have e9 : rp (sR y r 9 1) r 9 = 1 := by rw [er2 r 9 (by decide), if_pos ⟨rfl, rfl⟩]
    have eo2 : ∀ q, q ≠ r → ∀ j, j < 12 → rp (sR y r 9 1) q j = rp s q j := fun q hq j hj => by rw [er2 q j hj, if_neg (fun z => hq z.1), eo q hq j hj]
    have ej2 : ∀ q j, j < 12 → j ≠ 9 → rp (sR y r 9 1) q j = rp (sR s r 10 w) q j := fun q j hj b => by rw [er2 q j hj, if_neg (fun z => b z.2)]
    have eu : huS (sR y r 9 1) nH = huS y nH := sum_c nH (fun i hi => hp_sR (by omega) (by decide))
    have eu1 : huS (sR s r 10 w) nH = huS s nH := sum_c nH (fun i hi => hp_sR (by omega) (by decide))
    have m2 : M32 (sR y r 9 1) nA nH = M32 y nA nH := by
      have e1 : poolS (sR y r 9 1) nA = poolS y nA := sum_c nA (fun i hi => ap_sR (by omega) (by decide))
      unfold M32
      rw [e1, eu, gp_sR (by decide)]
    have g8 : gp (sR s r 10 w) 8 = gp s 8 := gp_sR (by decide)
    have g7 : gp (sR s r 10 w) 7 = gp s 7 := gp_sR (by decide)
    refine ⟨⟨hF, fo1.c4 (fun q _ => ⟨ej2 q 1 (by decide) (by decide), ej2 q 2 (by decide) (by decide), ej2 q 3 (by decide) (by decide), ej2 q 5 (by decide) (by decide)⟩), fun q hq => ?_, fun a ha => (h4 a ha).cg ?_ ?_, ?_, ?_, ?_⟩, by rw [m2, b1, m1], Or.inr ⟨rfl, ?_, e9⟩⟩
    · by_cases e : q = r
      · subst e
        refine ⟨fun z => ?_, fun z => ?_, fun z => ?_, ⟨g + 1, t, ?_, ?_, by omega, tt, fun z => ?_, fun _ => by omega⟩, fun k hk hk8 => ?_⟩
        · rw [ej2 q 3 (by decide) (by decide), ej q 3 (by decide) (by decide)] at z; exact absurd c3 z
        · rw [ej2 q 8 (by decide) (by decide), ej q 8 (by decide) (by decide)]; exact rb c3
        · rw [ej2 q 6 (by decide) (by decide), ej q 6 (by decide) (by decide)] at z; rw [ej2 q 3 (by decide) (by decide), ej q 3 (by decide) (by decide)]; exact rc z
        · rw [ej2 q 10 (by decide) (by decide), e10]; exact ew
        · rw [ej2 q 11 (by decide) (by decide), ej q 11 (by decide) (by decide)]; exact et
        · rw [e9] at z; exact absurd z (by decide)
        · rw [ej2 q 10 (by decide) (by decide), e10, ej2 q 11 (by decide) (by decide), ej q 11 (by decide) (by decide)]; exact ⟨hz k hk hk8, (re k hk hk8).2⟩
      · exact (h3 q hq).cg (eo2 q e)
    · rw [ap_sR (by omega) (by decide), b5 a 1 (by omega) (by decide), ap_sR (by omega) (by decide)]
    · rw [ap_sR (by omega) (by decide), b5 a 2 (by omega) (by decide), ap_sR (by omega) (by decide)]
    · rw [eu, gp_sR (by decide), gp_sR (by decide), b3, g7]
      rw [eu1, g8] at b2
      have := h5.1
      grind
    · rw [gp_sR (by decide), b3, g7]; exact in_mono h5.2.1 (by omega)
    · rw [gp_sR (by decide)]
      rw [g8, gp_sR (by decide)] at b4
      exact g8_in h1 h5.2.2 hN ew (by omega) b4
    · rw [eg, gz]; rfl
/-- told that it is still there -/
theorem retT_all (h : PI N s nA nH nR) (hN : N < 400) {c r : Nat} (hc : c < nH) (hr : r < nR) (hcan : canRt s nR c r) (hF : FI (N + 1) (retT s nH nR c r).1 nA nH nR) :
    PI (N + 1) (retT s nH nR c r).1 nA nH nR ∧ M32 (retT s nH nR c r).1 nA nH = M32 s nA nH ∧ ((retT s nH nR c r).2 = 0 ∧ onS (rp (retT s nH nR c r).1 r 11) = onS (rp s r 11) + 1 ∧ rp (retT s nH nR c r).1 r 10 = rp s r 10 ∨ (retT s nH nR c r).2 = 2 ∧ onS (rp s r 11) = 1 ∧ rp (retT s nH nR c r).1 r 3 = 0 ∧ undS (retT s nH nR c r).1 nR r = 0) := by
  have hcl := h
  obtain ⟨h1, h2, h3, h4, h5⟩ := h
  have h6 := h1.1.1.1.2
  have h8 := h1.1.1.2.1.2
  have h40 := h1.1.1.2.2.1.2
  have hr40 : r < 40 := by omega
  have hc8 : c < 8 := by omega
  obtain ⟨c3, c9, cb, -⟩ := hcan
  have q10 := (h1.1.2 r hr).2.1.2.1
  have q11 := (h1.1.2 r hr).2.1.2.2
  have c5 : rp s r 5 = -10009 := (h1.1.2 r hr).2.2.1 (by rw [c3]; decide)
  obtain ⟨b10, b11⟩ := bit_or q10 q11 hc8 cb
  obtain ⟨t1, t2⟩ := tel_all q11 hc8 b11
  have t3 : vp_in (rp s r 11 ||| ((1 : Int32) <<< (nI c &&& 31))) 256 := or_on q11 hc8
  obtain ⟨ra, rb, rc, ⟨g, t, eg, et, g2, tt, g9, -⟩, re⟩ := h3 r hr
  have tele : tel s r 11 c = rp s r 11 ||| ((1 : Int32) <<< (nI c &&& 31)) := rfl
  unfold retT at hF ⊢
  rw [tele] at hF ⊢
  generalize rp s r 11 ||| ((1 : Int32) <<< (nI c &&& 31)) = w at t1 t2 t3 hF ⊢
  have ew : onS w = nI (t + 1) := by rw [t1, et, nI_1]
  have hz : ∀ k, nH ≤ k → k < 8 → ¬ bitS w k := fun k hk hk8 q => by
    rcases t2 k hk8 q with e | e
    · omega
    · exact (re k hk hk8).2 e
  have er : ∀ q j, j < 12 → rp (sR s r 11 w) q j = if q = r ∧ j = 11 then w else rp s q j := fun q j hj => rp_sR hj (by decide)
  have e11 : rp (sR s r 11 w) r 11 = w := by rw [er r 11 (by decide), if_pos ⟨rfl, rfl⟩]
  have eo : ∀ q, q ≠ r → ∀ j, j < 12 → rp (sR s r 11 w) q j = rp s q j := fun q hq j hj => by rw [er q j hj, if_neg (fun z => hq z.1)]
  have ej : ∀ q j, j < 12 → j ≠ 11 → rp (sR s r 11 w) q j = rp s q j := fun q j hj b => by rw [er q j hj, if_neg (fun z => b z.2)]
  have m1 : M32 (sR s r 11 w) nA nH = M32 s nA nH := by
    have e1 : poolS (sR s r 11 w) nA = poolS s nA := sum_c nA (fun i hi => ap_sR (by omega) (by decide))
    have e2 : huS (sR s r 11 w) nH = huS s nH := sum_c nH (fun i hi => hp_sR (by omega) (by decide))
    unfold M32
    rw [e1, e2, gp_sR (by decide)]
  have fo1 : Fo (sR s r 11 w) nR := h2.c4 (fun q _ => ⟨ej q 1 (by decide) (by decide), ej q 2 (by decide) (by decide), ej q 3 (by decide) (by decide), ej q 5 (by decide) (by decide)⟩)
  by_cases hlt : onS w < 2
  · rw [if_pos hlt] at hF ⊢
    dsimp only at hF ⊢
    have tz : t = 0 := by
      rw [ew, n_lt2 (by omega)] at hlt
      omega
    refine ⟨hcl.wR (r := r) (fun k hk => sR_lo hk) eo hF fo1 (fun _ => ?_), m1, Or.inl ⟨rfl, by rw [e11]; exact t1, ej r 10 (by decide) (by decide)⟩⟩
    refine ⟨fun q => ?_, fun q => ?_, fun q => ?_, ⟨g, t + 1, by rw [ej r 10 (by decide) (by decide)]; exact eg, by rw [e11]; exact ew, g2, by omega, fun q => ?_, fun q => ?_⟩, fun k hk hk8 => ?_⟩
    · rw [ej r 3 (by decide) (by decide)] at q; exact absurd c3 q
    · rw [ej r 8 (by decide) (by decide)]; exact rb c3
    · rw [ej r 6 (by decide) (by decide)] at q; rw [ej r 3 (by decide) (by decide)]; exact rc q
    · rw [ej r 9 (by decide) (by decide)] at q; exact g9 q
    · rw [ej r 9 (by decide) (by decide), c9] at q; exact absurd q (by decide)
    · rw [e11, ej r 10 (by decide) (by decide)]; exact ⟨(re k hk hk8).1, hz k hk hk8⟩
  · rw [if_neg hlt] at hF ⊢
    dsimp only at hF ⊢
    have tz : t = 1 := by
      rw [ew, n_lt2 (by omega)] at hlt
      omega
    have hs : ¬ (rp s r 3 = 0 ∨ rp s r 3 = 5) := by rw [c3]; decide
    have hI1 : Iv (sR s r 11 w) nA nH nR := h1.1.wR hr40 (by decide) (by decide) (by decide) (fun _ => (h1.1.2 r hr).w11 t3 hs)
    obtain ⟨b1, ⟨b2, b3⟩, b4, b5, b6⟩ := bon_all hI1 t3 hz
    have brp := fun q j => bon_rp (sR s r 11 w) h8 w q j
    have bI := hI1.bon (v := w)
    generalize bonS (sR s r 11 w) nH w = y at hF b1 b2 b3 b4 b5 b6 brp bI ⊢
    have aI := bI.aga hr (by rw [brp, ej r 5 (by decide) (by decide)]; exact c5) (by rw [brp, ej r 9 (by decide) (by decide)]; exact c9)
    have ax : ∀ q j, j < 12 → rp (agaA y r) q j = if q = r ∧ (j = 11 ∨ j = 10 ∨ j = 7 ∨ j = 6 ∨ j = 4 ∨ j = 3) then 0 else rp (sR s r 11 w) q j := fun q j hj => by
      unfold agaA
      rw [rp_sR hj (by decide), rp_sR hj (by decide), rp_sR hj (by decide), rp_sR hj (by decide), rp_sR hj (by decide), rp_sR hj (by decide), brp]
      by_cases e : q = r
      · by_cases a1 : j = 11
        · rw [if_pos ⟨e, a1⟩, if_pos ⟨e, by omega⟩]
        · by_cases a2 : j = 10
          · rw [if_neg (by omega), if_pos ⟨e, a2⟩, if_pos ⟨e, by omega⟩]
          · by_cases a3 : j = 7
            · rw [if_neg (by omega), if_neg (by omega), if_pos ⟨e, a3⟩, if_pos ⟨e, by omega⟩]
            · by_cases a4 : j = 6
              · rw [if_neg (by omega), if_neg (by omega), if_neg (by omega), if_pos ⟨e, a4⟩, if_pos ⟨e, by omega⟩]
              · by_cases a5 : j = 4
                · rw [if_neg (by omega), if_neg (by omega), if_neg (by omega), if_neg (by omega), if_pos ⟨e, a5⟩, if_pos ⟨e, by omega⟩]
                · by_cases a6 : j = 3
                  · rw [if_neg (by omega), if_neg (by omega), if_neg (by omega), if_neg (by omega), if_neg (by omega), if_pos ⟨e, a6⟩, if_pos ⟨e, by omega⟩]
                  · rw [if_neg (by omega), if_neg (by omega), if_neg (by omega), if_neg (by omega), if_neg (by omega), if_neg (by omega), if_neg (by omega)]
      · rw [if_neg (fun z => e z.1), if_neg (fun z => e z.1), if_neg (fun z => e z.1), if_neg (fun z => e z.1), if_neg (fun z => e z.1), if_neg (fun z => e z.1), if_neg (fun z => e z.1)]
    have alo : ∀ k, k < 59 → agaA y r k = y k := fun k hk => by
      unfold agaA
      rw [sR_lo hk, sR_lo hk, sR_lo hk, sR_lo hk, sR_lo hk, sR_lo hk]
    have hlo : ∀ k, k < 59 → (unfS (agaA y r) nR r).1 k = y k := fun k hk => (unf_off _ nR r h40 hk).trans (alo k hk)
    have ur := (unf_all (agaA y r) nR r).1
    have x3 : rp (agaA y r) r 3 = 0 := by rw [ax r 3 (by decide), if_pos ⟨rfl, by omega⟩]
    have hoth : ∀ q, q ≠ r → ∀ j, j < 12 → rp (agaA y r) q j = rp s q j := fun q hq j hj => by rw [ax q j hj, if_neg (fun z => hq z.1), eo q hq j hj]
    have h12 : ∀ q, rp (agaA y r) q 1 = rp s q 1 ∧ rp (agaA y r) q 2 = rp s q 2 := fun q => ⟨by rw [ax q 1 (by decide), if_neg (by omega), ej q 1 (by decide) (by decide)], by rw [ax q 2 (by decide), if_neg (by omega), ej q 2 (by decide) (by decide)]⟩
    have nu : ¬ under (agaA y r) r r := fun z => by
      have := z.1
      rw [x3] at this
      exact absurd this (by decide)
    have eh : huS (unfS (agaA y r) nR r).1 nH = huS y nH := sum_c nH (fun i hi => by unfold hp; exact hlo _ (by omega))
    have ep : poolS (unfS (agaA y r) nR r).1 nA = poolS y nA := sum_c nA (fun i hi => by unfold ap; exact hlo _ (by omega))
    have eu1 : huS (sR s r 11 w) nH = huS s nH := sum_c nH (fun i hi => hp_sR (by omega) (by decide))
    have g8 : gp (sR s r 11 w) 8 = gp s 8 := gp_sR (by decide)
    have g7 : gp (sR s r 11 w) 7 = gp s 7 := gp_sR (by decide)
    have l7 : gp (unfS (agaA y r) nR r).1 7 = gp y 7 := hlo 7 (by omega)
    have l8 : gp (unfS (agaA y r) nR r).1 8 = gp y 8 := hlo 8 (by omega)
    have l1 : gp (unfS (agaA y r) nR r).1 1 = gp y 1 := hlo 1 (by omega)
    refine ⟨⟨hF, ?_, fun q hq => ?_, fun a ha => (h4 a ha).cg ?_ ?_, ?_, ?_, ?_⟩, ?_, Or.inr ⟨rfl, by rw [et, tz]; rfl, ?_, und_none (by omega)⟩⟩
    · refine h2.unf (fun q _ => h12 q) (fun q _ z => ?_) (fun q _ e g => by rw [hoth q e 3 (by decide)]; exact g) (fun q _ g => ?_) hr h40
      · by_cases e : q = r
        · subst e; rw [x3] at z; exact absurd z (by decide)
        · rw [hoth q e 3 (by decide)] at z; exact ⟨z, hoth q e 5 (by decide)⟩
      · by_cases e : q = r
        · subst e; rw [c3] at g; exact absurd g (by decide)
        · rw [hoth q e 3 (by decide)]; exact g
    · refine Qr.unf ?_ (aI.2 q hq) hq
      by_cases e : q = r
      · subst e
        refine Qr0 (by rw [x3]; decide) (fun z => ?_) ?_ ?_ ?_
        · rw [ax q 6 (by decide), if_pos ⟨rfl, by omega⟩] at z; exact absurd z (by decide)
        · rw [ax q 9 (by decide), if_neg (by omega), ej q 9 (by decide) (by decide)]; exact c9
        · rw [ax q 10 (by decide), if_pos ⟨rfl, by omega⟩]
        · rw [ax q 11 (by decide), if_pos ⟨rfl, by omega⟩]
      · exact (h3 q hq).cg (hoth q e)
    · rw [show ap (unfS (agaA y r) nR r).1 a 1 = ap y a 1 from by unfold ap; exact hlo _ (by omega), b5 a 1 (by omega) (by decide), ap_sR (by omega) (by decide)]
    · rw [show ap (unfS (agaA y r) nR r).1 a 2 = ap y a 2 from by unfold ap; exact hlo _ (by omega), b5 a 2 (by omega) (by decide), ap_sR (by omega) (by decide)]
    · rw [eh, l7, l8, b3, g7]
      rw [eu1, g8] at b2
      have := h5.1
      grind
    · rw [l7, b3, g7]; exact in_mono h5.2.1 (by omega)
    · rw [l8]
      rw [g8, gp_sR (by decide)] at b4
      exact g8_in h1 h5.2.2 hN ew (by omega) b4
    · have : M32 (unfS (agaA y r) nR r).1 nA nH = M32 y nA nH := by
        unfold M32
        rw [eh, ep, l1]
      rw [this, b1, m1]
    · rw [ur r 3 (by decide), if_neg (fun z => nu z.2)]; exact x3
end INV3
