/-! what always holds of the desk -/
def Fo1 (s : St) (k : Nat) : Prop := ∃ i, i < k ∧ rp s k 5 = nI i ∧ (rp s i 1 = rp s k 1 ∧ rp s i 2 = rp s k 2) ∧ (¬ rp s i 3 = 4 ∧ ¬ rp s i 3 = 5) ∧ ∀ j, j < i → rp s j 1 = rp s k 1 → rp s j 2 = rp s k 2 → rp s j 3 = 4
def Fo (s : St) (nR : Nat) : Prop := ∀ k, k < nR → rp s k 3 = 5 → Fo1 s k
def Qr (s : St) (nH r : Nat) : Prop := (¬ rp s r 3 = 3 → rp s r 9 = 0 ∧ rp s r 10 = 0 ∧ rp s r 11 = 0) ∧ (rp s r 3 = 3 → ∃ p, rp s r 8 = nI p ∧ 1 ≤ p ∧ p ≤ 2880) ∧ (rp s r 6 = 1 → rp s r 3 = 1 ∨ rp s r 3 = 2) ∧
  (∃ g t, onS (rp s r 10) = nI g ∧ onS (rp s r 11) = nI t ∧ g ≤ 2 ∧ t ≤ 1 ∧ (rp s r 9 = 0 → g ≤ 1) ∧ (rp s r 9 = 1 → g = 2)) ∧ ∀ h, nH ≤ h → h < 8 → ¬ bitS (rp s r 10) h ∧ ¬ bitS (rp s r 11) h
def Qm (N : Nat) (s : St) (nH : Nat) : Prop := huS s nH = gp s 7 + gp s 8 ∧ vp_in (gp s 7) (800000 * N + 1) ∧ vp_in (gp s 8) (4000 * N + 1)
def PI (N : Nat) (s : St) (nA nH nR : Nat) : Prop := FI N s nA nH nR ∧ Fo s nR ∧ (∀ r, r < nR → Qr s nH r) ∧ (∀ a, a < nA → Qa s a) ∧ Qm N s nH
section INV
variable {s x y z : St} {nA nH nR nA' nH' nR' Rb Mb Nb N : Nat} {v p t : Int32}
theorem Fo.rel (h : Fo s nR) (h12 : ∀ q, q < nR → rp y q 1 = rp s q 1 ∧ rp y q 2 = rp s q 2) (h5 : ∀ q, q < nR → rp y q 3 = 5 → rp s q 3 = 5 ∧ rp y q 5 = rp s q 5) (h45 : ∀ q, q < nR → (¬ rp s q 3 = 4 ∧ ¬ rp s q 3 = 5) → (¬ rp y q 3 = 4 ∧ ¬ rp y q 3 = 5) ∨ ∀ k, k < nR → rp y k 3 = 5 → ¬ rp s k 5 = nI q) (h4 : ∀ q, q < nR → rp s q 3 = 4 → rp y q 3 = 4) : Fo y nR := by
  intro k hk hk5
  obtain ⟨e5, e6⟩ := h5 k hk hk5
  obtain ⟨i, hi, f1, ⟨f2, f3⟩, f4, f5⟩ := h k hk e5
  obtain ⟨a1, a2⟩ := h12 k hk
  obtain ⟨b1, b2⟩ := h12 i (by omega)
  refine ⟨i, hi, e6.trans f1, ⟨by rw [b1, a1]; exact f2, by rw [b2, a2]; exact f3⟩, ?_, fun j hj j1 j2 => ?_⟩
  · rcases h45 i (by omega) f4 with g | g
    · exact g
    · exact absurd f1 (g k hk hk5)
  · obtain ⟨c1, c2⟩ := h12 j (by omega)
    rw [c1, a1] at j1
    rw [c2, a2] at j2
    exact h4 j (by omega) (f5 j hj j1 j2)
theorem Fo.cg (h : Fo s nR) (e : ∀ q, q < nR → ∀ j, j < 12 → rp y q j = rp s q j) : Fo y nR :=
  h.rel (fun q hq => ⟨e q hq 1 (by decide), e q hq 2 (by decide)⟩) (fun q hq h5 => ⟨by rw [← e q hq 3 (by decide)]; exact h5, e q hq 5 (by decide)⟩) (fun q hq g => Or.inl (by rw [e q hq 3 (by decide)]; exact g)) (fun q hq g => by rw [e q hq 3 (by decide)]; exact g)
theorem Qr.to {r : Nat} (h : Qr s nH r) (e3 : rp y r 3 = rp s r 3) (e6 : rp y r 6 = rp s r 6) (e8 : rp y r 8 = rp s r 8) (e9 : rp y r 9 = rp s r 9) (e10 : rp y r 10 = rp s r 10) (e11 : rp y r 11 = rp s r 11) : Qr y nH r := by
  unfold Qr at h ⊢
  rw [e3, e6, e8, e9, e10, e11]
  exact h
theorem Qr.cg {r : Nat} (h : Qr s nH r) (e : ∀ j, j < 12 → rp y r j = rp s r j) : Qr y nH r := h.to (e 3 (by decide)) (e 6 (by decide)) (e 8 (by decide)) (e 9 (by decide)) (e 10 (by decide)) (e 11 (by decide))
theorem Qa.cg {a : Nat} (h : Qa s a) (e1 : ap y a 1 = ap s a 1) (e2 : ap y a 2 = ap s a 2) : Qa y a := by
  unfold Qa at h ⊢
  rw [e1, e2]
  exact h
theorem Qm.cg (h : Qm N s nH) (e : huS y nH = huS s nH) (e7 : gp y 7 = gp s 7) (e8 : gp y 8 = gp s 8) : Qm (N + 1) y nH := by
  unfold Qm at h ⊢
  rw [e, e7, e8]
  exact ⟨h.1, in_mono h.2.1 (by omega), in_mono h.2.2 (by omega)⟩
theorem Qm.mono {N' : Nat} (h : Qm N s nH) (hN : N ≤ N') : Qm N' s nH := ⟨h.1, in_mono h.2.1 (by omega), in_mono h.2.2 (by omega)⟩
theorem PI.mono {N' : Nat} (h : PI N s nA nH nR) (hN : N ≤ N') : PI N' s nA nH nR := ⟨h.1.mono hN, h.2.1, h.2.2.1, h.2.2.2.1, h.2.2.2.2.mono hN⟩
/-- a number of the whole desk is set -/
theorem PI.wG (h : PI N s nA nH nR) {g : Nat} (hg : g < 4) (hF : FI (N + 1) (sG s g v) nA nH nR) : PI (N + 1) (sG s g v) nA nH nR := by
  obtain ⟨h1, h2, h3, h4, h5⟩ := h
  exact ⟨hF, h2.cg (fun q _ j _ => rp_sG (by omega)), fun r hr => (h3 r hr).cg (fun j _ => rp_sG (by omega)), fun a ha => (h4 a ha).cg (ap_sG (by omega)) (ap_sG (by omega)), h5.cg (sum_c nH (fun q _ => hp_sG (by omega))) (by rw [gp_sG, if_neg (by omega)]) (by rw [gp_sG, if_neg (by omega)])⟩
theorem PI.opA (h : PI N s nA nH nR) {w al : Nat} (hn : nA < 6) (hal : al < 10001) (hF : FI (N + 1) (opnA s nA (nI w) (nI al)) (nA + 1) nH nR) : PI (N + 1) (opnA s nA (nI w) (nI al)) (nA + 1) nH nR := by
  obtain ⟨h1, h2, h3, h4, h5⟩ := h
  have h8 := h1.1.1.2.1.2
  have er : ∀ q j, rp (opnA s nA (nI w) (nI al)) q j = rp s q j := fun q j => by
    unfold opnA
    rw [rp_sG (by decide), rp_sA hn (by decide), rp_sA hn (by decide), rp_sA hn (by decide)]
  have eh : ∀ q j, q < 8 → j < 4 → hp (opnA s nA (nI w) (nI al)) q j = hp s q j := fun q j hq hj => by
    unfold opnA
    rw [hp_sG (by decide), hp_sA hn (by decide), hp_sA hn (by decide), hp_sA hn (by decide)]
  have eg : ∀ q, q < 9 → ¬ q = 4 → gp (opnA s nA (nI w) (nI al)) q = gp s q := fun q hq h4 => by
    unfold opnA
    rw [gp_sG, if_neg h4, gp_sA hq, gp_sA hq, gp_sA hq]
  refine ⟨hF, h2.cg (fun q _ j _ => er q j), fun r hr => (h3 r hr).cg (fun j _ => er r j), fun a ha => ?_, h5.cg (sum_c nH (fun q hq => eh q 0 (by omega) (by decide))) (eg 7 (by decide) (by decide)) (eg 8 (by decide) (by decide))⟩
  by_cases e : a = nA
  · subst e
    refine ⟨al, al, ?_, ?_, by omega, by omega⟩
    · unfold opnA
      rw [ap_sG (by decide), ap_sA (by decide) (by decide), if_neg (by omega), ap_sA (by decide) (by decide), if_pos ⟨rfl, rfl⟩]
    · unfold opnA
      rw [ap_sG (by decide), ap_sA (by decide) (by decide), if_pos ⟨rfl, rfl⟩]
  · have ea : ∀ j, j < 3 → ap (opnA s nA (nI w) (nI al)) a j = ap s a j := fun j hj => by
      unfold opnA
      rw [ap_sG (by decide), ap_sA hj (by decide), if_neg (fun z => e z.1), ap_sA hj (by decide), if_neg (fun z => e z.1), ap_sA hj (by decide), if_neg (fun z => e z.1)]
    exact (h4 a (by omega)).cg (ea 1 (by decide)) (ea 2 (by decide))
theorem PI.opH (h : PI N s nA nH nR) (hn : nH < 8) (hF : FI (N + 1) (opnH s) nA (nH + 1) nR) : PI (N + 1) (opnH s) nA (nH + 1) nR := by
  obtain ⟨h1, h2, h3, h4, h5⟩ := h
  unfold opnH at hF ⊢
  have er : ∀ q j, rp (sG s 5 (gp s 5 + 1)) q j = rp s q j := fun q j => rp_sG (by decide)
  have hz := h1.2.2.2.2 nH (Nat.le_refl _) hn 0 (by decide)
  have eu : huS (sG s 5 (gp s 5 + 1)) (nH + 1) = huS s nH := by
    have e1 : huS (sG s 5 (gp s 5 + 1)) (nH + 1) = huS s (nH + 1) := sum_c (nH + 1) (fun q _ => hp_sG (by decide))
    rw [e1]
    show sum _ (nH + 1) = _
    rw [sum_s, hz, Int32.add_zero]
    rfl
  refine ⟨hF, h2.cg (fun q _ j _ => er q j), fun r hr => ?_, fun a ha => (h4 a ha).cg (ap_sG (by decide)) (ap_sG (by decide)), ?_⟩
  · obtain ⟨a, b, c, d, e⟩ := (h3 r hr).cg (fun j _ => er r j)
    exact ⟨a, b, c, d, fun h hh => e h (by omega)⟩
  · unfold Qm at h5 ⊢
    rw [eu, gp_sG, if_neg (by decide), gp_sG, if_neg (by decide)]
    exact ⟨h5.1, in_mono h5.2.1 (by omega), in_mono h5.2.2 (by omega)⟩
theorem on0 : onS 0 = nI 0 := by decide +kernel
theorem bit0 : ∀ h, h < 8 → ¬ bitS 0 h := by decide +kernel
theorem Qr0 {r : Nat} (h3 : ¬ rp s r 3 = 3) (h6 : rp s r 6 = 1 → rp s r 3 = 1 ∨ rp s r 3 = 2) (h9 : rp s r 9 = 0) (h10 : rp s r 10 = 0) (h11 : rp s r 11 = 0) : Qr s nH r := by
  refine ⟨fun _ => ⟨h9, h10, h11⟩, fun q => absurd q h3, h6, ⟨0, 0, ?_, ?_, by omega, by omega, fun _ => by omega, fun q => ?_⟩, fun h _ hh => ?_⟩
  · rw [h10]; exact on0
  · rw [h11]; exact on0
  · rw [h9] at q; exact absurd q (by decide)
  · rw [h10, h11]; exact ⟨bit0 h hh, bit0 h hh⟩
theorem PI.opR (h : PI N s nA nH nR) (hn : nR < 40) {a b : Nat} {f : Int32} (hF : FI (N + 1) (opnR s nR (nI a) (nI b) f) nA nH (nR + 1)) : PI (N + 1) (opnR s nR (nI a) (nI b) f) nA nH (nR + 1) := by
  obtain ⟨h1, h2, h3, h4, h5⟩ := h
  have h6 := h1.1.1.1.2
  have h8 := h1.1.1.2.1.2
  have eg : ∀ q, q < 9 → ¬ q = 6 → gp (opnR s nR (nI a) (nI b) f) q = gp s q := fun q hq h4 => by
    unfold opnR
    rw [gp_sG, if_neg h4, gp_sR hq, gp_sR hq, gp_sR hq, gp_sR hq]
    exact zerR_off s nR (k := q) (by omega)
  have eh : ∀ q, q < 8 → ∀ j, j < 4 → hp (opnR s nR (nI a) (nI b) f) q j = hp s q j := fun q hq j hj => by
    unfold opnR
    rw [hp_sG (by decide), hp_sR hq hj, hp_sR hq hj, hp_sR hq hj, hp_sR hq hj]
    unfold hp
    exact zerR_off s nR (by omega)
  have ea : ∀ q, q < 6 → ∀ j, j < 3 → ap (opnR s nR (nI a) (nI b) f) q j = ap s q j := fun q hq j hj => by
    unfold opnR
    rw [ap_sG (by decide), ap_sR hq hj, ap_sR hq hj, ap_sR hq hj, ap_sR hq hj]
    unfold ap
    exact zerR_off s nR (by omega)
  have er : ∀ q j, j < 12 → ¬ q = nR → rp (opnR s nR (nI a) (nI b) f) q j = rp s q j := fun q j hj hq => by
    unfold opnR
    rw [rp_sG (by decide), rp_sR hj (by decide), if_neg (fun x => hq x.1), rp_sR hj (by decide), if_neg (fun x => hq x.1), rp_sR hj (by decide), if_neg (fun x => hq x.1), rp_sR hj (by decide), if_neg (fun x => hq x.1)]
    unfold rp
    exact zerR_off s nR (by omega)
  have e0 : ∀ j, j < 12 → rp (opnR s nR (nI a) (nI b) f) nR j = if j = 5 then -10009 else if j = 2 then f else if j = 1 then nI b else if j = 0 then nI a else 0 := fun j hj => by
    unfold opnR
    rw [rp_sG (by decide), rp_sR hj (by decide), rp_sR hj (by decide), rp_sR hj (by decide), rp_sR hj (by decide), zerR_in s nR hj]
    simp only [true_and]
  have z3 : rp (opnR s nR (nI a) (nI b) f) nR 3 = 0 := (e0 3 (by decide)).trans rfl
  refine ⟨hF, fun k hk hk5 => ?_, fun r hr => ?_, fun q hq => (h4 q hq).cg (ea q (by omega) 1 (by decide)) (ea q (by omega) 2 (by decide)), h5.cg (sum_c nH (fun q hq => eh q (by omega) 0 (by decide))) (eg 7 (by decide) (by decide)) (eg 8 (by decide) (by decide))⟩
  · by_cases e : k = nR
    · rw [e, z3] at hk5
      exact absurd hk5 (by decide)
    · have := (h2.cg (y := opnR s nR (nI a) (nI b) f) (fun q hq j hj => er q j hj (by omega))) k (by omega) hk5
      exact this
  · by_cases e : r = nR
    · subst e
      exact Qr0 (by rw [z3]; decide) (fun q => by rw [show rp (opnR s r (nI a) (nI b) f) r 6 = 0 from (e0 6 (by decide)).trans rfl] at q; exact absurd q (by decide)) ((e0 9 (by decide)).trans rfl) ((e0 10 (by decide)).trans rfl) ((e0 11 (by decide)).trans rfl)
    · exact (h3 r (by omega)).cg (fun j hj => er r j hj e)
/-- one place of a report is set that the rest doesn't look at -/
theorem PI.wR (h : PI N s nA nH nR) {r : Nat} (hy : ∀ k, k < 59 → y k = s k) (he : ∀ q, q ≠ r → ∀ j, j < 12 → rp y q j = rp s q j) (hF : FI (N + 1) y nA nH nR) (hf : Fo y nR) (hq : r < nR → Qr y nH r) : PI (N + 1) y nA nH nR := by
  obtain ⟨h1, h2, h3, h4, h5⟩ := h
  have h6 := h1.1.1.1.2
  have h8 := h1.1.1.2.1.2
  refine ⟨hF, hf, fun q hq' => ?_, fun a ha => (h4 a ha).cg (by unfold ap; exact hy _ (by omega)) (by unfold ap; exact hy _ (by omega)), h5.cg (sum_c nH (fun q hq => by unfold hp; exact hy _ (by omega))) (hy 7 (by omega)) (hy 8 (by omega))⟩
  by_cases e : q = r
  · subst e; exact hq hq'
  · exact (h3 q hq').cg (he q e)
theorem sR_lo {r j k : Nat} (hk : k < 59) : sR s r j v k = s k := by
  unfold sR upd
  rw [if_neg (by omega)]
theorem ff_some {P : Nat → Bool} : ∀ n i, ff P i n = -10009 ∧ (∀ k, i ≤ k → k < i + n → P k = false) ∨ ∃ k, i ≤ k ∧ k < i + n ∧ ff P i n = nI k ∧ P k = true ∧ ∀ j, i ≤ j → j < k → P j = false
  | 0, i => Or.inl ⟨rfl, fun k h1 h2 => absurd h2 (by omega)⟩
  | n + 1, i => by
    cases hP : P i with
    | true =>
      refine Or.inr ⟨i, Nat.le_refl _, by omega, ?_, hP, fun j h1 h2 => absurd h2 (by omega)⟩
      show (if P i = true then nI i else ff P (i + 1) n) = nI i
      rw [if_pos hP]
    | false =>
      have e : ff P i (n + 1) = ff P (i + 1) n := by
        show (if P i = true then nI i else ff P (i + 1) n) = _
        rw [if_neg (by rw [hP]; decide)]
      rw [e]
      rcases ff_some n (i + 1) with ⟨a, b⟩ | ⟨k, a, b, c, d, f⟩
      · refine Or.inl ⟨a, fun k h1 h2 => ?_⟩
        by_cases e : k = i
        · rw [e]; exact hP
        · exact b k (by omega) (by omega)
      · refine Or.inr ⟨k, by omega, by omega, c, d, fun j h1 h2 => ?_⟩
        by_cases e : j = i
        · rw [e]; exact hP
        · exact f j (by omega) h2
theorem lt4 {x : Int32} (h : vp_in x 6) : (x < 4) = (¬ x = 4 ∧ ¬ x = 5) := propext (by
  rcases st_cases h with rfl | rfl | rfl | rfl | rfl | rfl <;> decide)
/-- the one into which a report could be folded -/
theorem orig_all (hI : Iv s nA nH nR) {r : Nat} (hr : r < nR) : origS s r = -10009 ∨ rp s r 3 = 0 ∧ ∃ i, i < r ∧ origS s r = nI i ∧ (rp s i 1 = rp s r 1 ∧ rp s i 2 = rp s r 2) ∧ (¬ rp s i 3 = 4 ∧ ¬ rp s i 3 = 5) ∧ ∀ j, j < i → rp s j 1 = rp s r 1 → rp s j 2 = rp s r 2 → rp s j 3 = 4 ∨ rp s j 3 = 5 := by
  unfold origS
  split
  · rename_i h0
    rcases ff_some (P := fun o => decide (rp s o 1 = rp s r 1 ∧ rp s o 2 = rp s r 2 ∧ rp s o 3 < 4)) r 0 with ⟨a, -⟩ | ⟨i, -, b, c, d, f⟩
    · exact Or.inl a
    · obtain ⟨d1, d2, d3⟩ := of_decide_eq_true d
      rw [lt4 (hI.2 i (by omega)).1.1] at d3
      refine Or.inr ⟨h0, i, by omega, c, ⟨d1, d2⟩, d3, fun j hj j1 j2 => ?_⟩
      have := of_decide_eq_false (f j (by omega) hj)
      have h3 : ¬ rp s j 3 < 4 := fun q => this ⟨j1, j2, q⟩
      rw [lt4 (hI.2 j (by omega)).1.1] at h3
      by_cases e4 : rp s j 3 = 4
      · exact Or.inl e4
      · exact Or.inr (Classical.byContradiction fun e5 => h3 ⟨e4, e5⟩)
  · exact Or.inl rfl
theorem PI.fold (h : PI N s nA nH nR) {r : Nat} (hr : r < nR) (ho : ¬ origS s r = -10009) (hF : FI (N + 1) (sR (sR s r 3 5) r 5 (origS s r)) nA nH nR) : PI (N + 1) (sR (sR s r 3 5) r 5 (origS s r)) nA nH nR := by
  have hI := h.1.1
  have hfo := h.2.1
  rcases orig_all hI hr with q | ⟨h0, i, hi, ei, ⟨i1, i2⟩, ⟨i4, i5⟩, imin⟩
  · exact absurd q ho
  have er : ∀ q j, j < 12 → rp (sR (sR s r 3 5) r 5 (origS s r)) q j = if q = r ∧ j = 5 then origS s r else if q = r ∧ j = 3 then 5 else rp s q j := fun q j hj => by
    rw [rp_sR hj (by decide), rp_sR hj (by decide)]
  -- whatever tells of the same thing ahead of it is refused
  have all4 : ∀ j, j < i → rp s j 1 = rp s r 1 → rp s j 2 = rp s r 2 → rp s j 3 = 4 := fun j hj j1 j2 => by
    rcases imin j hj j1 j2 with q | q
    · exact q
    · obtain ⟨k, hk, -, ⟨k1, k2⟩, ⟨k4, k5⟩, -⟩ := hfo j (by omega) q
      rcases imin k (by omega) (k1.trans j1) (k2.trans j2) with q | q
      · exact absurd q k4
      · exact absurd q k5
  refine h.wR (r := r) (fun k hk => by rw [sR_lo hk, sR_lo hk]) (fun q hq j hj => by rw [er q j hj, if_neg (fun z => hq z.1), if_neg (fun z => hq z.1)]) hF ?_ (fun _ => ?_)
  · intro k hk hk5
    by_cases e : k = r
    · subst e
      refine ⟨i, hi, ?_, ?_, ?_, fun j hj => ?_⟩
      · rw [er k 5 (by decide), if_pos ⟨rfl, rfl⟩]; exact ei
      · rw [er i 1 (by decide), er i 2 (by decide), er k 1 (by decide), er k 2 (by decide), if_neg (by omega), if_neg (by omega), if_neg (by omega), if_neg (by omega), if_neg (by omega), if_neg (by omega), if_neg (by omega), if_neg (by omega)]
        exact ⟨i1, i2⟩
      · rw [er i 3 (by decide), if_neg (by omega), if_neg (by omega)]
        exact ⟨i4, i5⟩
      · rw [er j 1 (by decide), er j 2 (by decide), er j 3 (by decide), er k 1 (by decide), er k 2 (by decide), if_neg (by omega), if_neg (by omega), if_neg (by omega), if_neg (by omega), if_neg (by omega), if_neg (by omega), if_neg (by omega), if_neg (by omega), if_neg (by omega), if_neg (by omega)]
        exact all4 j hj
    · rw [er k 3 (by decide), if_neg (fun z => e z.1), if_neg (fun z => e z.1)] at hk5
      obtain ⟨b, hb, b1, ⟨b2, b3⟩, ⟨b4, b5⟩, b6⟩ := hfo k hk hk5
      have hbr : b ≠ r := fun q => by
        subst q
        have := b6 i hi (i1.trans b2) (i2.trans b3)
        exact i4 this
      have ek : ∀ j, j < 12 → rp (sR (sR s r 3 5) r 5 (origS s r)) k j = rp s k j := fun j hj => by rw [er k j hj, if_neg (fun z => e z.1), if_neg (fun z => e z.1)]
      have eb : ∀ j, j < 12 → rp (sR (sR s r 3 5) r 5 (origS s r)) b j = rp s b j := fun j hj => by rw [er b j hj, if_neg (fun z => hbr z.1), if_neg (fun z => hbr z.1)]
      refine ⟨b, hb, by rw [ek 5 (by decide)]; exact b1, by rw [ek 1 (by decide), ek 2 (by decide), eb 1 (by decide), eb 2 (by decide)]; exact ⟨b2, b3⟩, by rw [eb 3 (by decide)]; exact ⟨b4, b5⟩, fun j hj j1 j2 => ?_⟩
      rw [ek 1 (by decide), er j 1 (by decide), if_neg (by omega), if_neg (by omega)] at j1
      rw [ek 2 (by decide), er j 2 (by decide), if_neg (by omega), if_neg (by omega)] at j2
      have j4 := b6 j hj j1 j2
      have hjr : j ≠ r := fun q => by
        rw [q, h0] at j4
        exact absurd j4 (by decide)
      rw [er j 3 (by decide), if_neg (fun z => hjr z.1), if_neg (fun z => hjr z.1)]
      exact j4
  · obtain ⟨-, -, -, d, -⟩ := hI.2 r hr
    obtain ⟨z4, z6, z7, z9, z10, z11⟩ := d (Or.inl h0)
    have e3 : rp (sR (sR s r 3 5) r 5 (origS s r)) r 3 = 5 := by rw [er r 3 (by decide), if_neg (by omega), if_pos ⟨rfl, rfl⟩]
    have ee : ∀ j, j < 12 → j ≠ 3 → j ≠ 5 → rp (sR (sR s r 3 5) r 5 (origS s r)) r j = rp s r j := fun j hj a b => by rw [er r j hj, if_neg (fun z => b z.2), if_neg (fun z => a z.2)]
    exact Qr0 (by rw [e3]; decide) (fun q => by rw [ee 6 (by decide) (by decide) (by decide), z6] at q; exact absurd q (by decide)) ((ee 9 (by decide) (by decide) (by decide)).trans z9) ((ee 10 (by decide) (by decide) (by decide)).trans z10) ((ee 11 (by decide) (by decide) (by decide)).trans z11)
end INV
