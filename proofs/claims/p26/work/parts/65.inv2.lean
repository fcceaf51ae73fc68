/-! it holds behind each deed on reports -/
section INV2
variable {s x y z : St} {nA nH nR nA' nH' nR' Rb Mb Nb N : Nat} {v p t : Int32}
theorem PI.grade (h : PI N s nA nH nR) {r : Nat} (hr : r < nR) (h0 : rp s r 3 = 0) (hF : FI (N + 1) (sR (sR s r 3 1) r 4 v) nA nH nR) : PI (N + 1) (sR (sR s r 3 1) r 4 v) nA nH nR := by
  have er : ∀ q j, j < 12 → rp (sR (sR s r 3 1) r 4 v) q j = if q = r ∧ j = 4 then v else if q = r ∧ j = 3 then 1 else rp s q j := fun q j hj => by
    rw [rp_sR hj (by decide), rp_sR hj (by decide)]
  have eo : ∀ q, q ≠ r → ∀ j, j < 12 → rp (sR (sR s r 3 1) r 4 v) q j = rp s q j := fun q hq j hj => by rw [er q j hj, if_neg (fun z => hq z.1), if_neg (fun z => hq z.1)]
  have ej : ∀ q j, j < 12 → j ≠ 3 → j ≠ 4 → rp (sR (sR s r 3 1) r 4 v) q j = rp s q j := fun q j hj a b => by rw [er q j hj, if_neg (fun z => b z.2), if_neg (fun z => a z.2)]
  have e3 : rp (sR (sR s r 3 1) r 4 v) r 3 = 1 := by rw [er r 3 (by decide), if_neg (by omega), if_pos ⟨rfl, rfl⟩]
  refine h.wR (r := r) (fun k hk => by rw [sR_lo hk, sR_lo hk]) eo hF ?_ (fun _ => ?_)
  · refine h.2.1.rel (fun q _ => ⟨ej q 1 (by decide) (by decide) (by decide), ej q 2 (by decide) (by decide) (by decide)⟩) (fun q _ h5 => ?_) (fun q _ g => Or.inl ?_) (fun q _ g => ?_)
    · by_cases e : q = r
      · subst e; rw [e3] at h5; exact absurd h5 (by decide)
      · rw [eo q e 3 (by decide)] at h5; exact ⟨h5, eo q e 5 (by decide)⟩
    · by_cases e : q = r
      · subst e; rw [e3]; decide
      · rw [eo q e 3 (by decide)]; exact g
    · by_cases e : q = r
      · subst e; rw [h0] at g; exact absurd g (by decide)
      · rw [eo q e 3 (by decide)]; exact g
  · obtain ⟨-, -, -, d, -⟩ := h.1.1.2 r hr
    obtain ⟨z4, z6, z7, z9, z10, z11⟩ := d (Or.inl h0)
    exact Qr0 (by rw [e3]; decide) (fun q => by rw [e3]; exact Or.inl rfl) ((ej r 9 (by decide) (by decide) (by decide)).trans z9) ((ej r 10 (by decide) (by decide) (by decide)).trans z10) ((ej r 11 (by decide) (by decide) (by decide)).trans z11)
theorem PI.appeal (h : PI N s nA nH nR) {r : Nat} (hr : r < nR) (h0 : isDue s r) (hF : FI (N + 1) (sR (sR s r 6 1) r 7 v) nA nH nR) : PI (N + 1) (sR (sR s r 6 1) r 7 v) nA nH nR := by
  have er : ∀ q j, j < 12 → rp (sR (sR s r 6 1) r 7 v) q j = if q = r ∧ j = 7 then v else if q = r ∧ j = 6 then 1 else rp s q j := fun q j hj => by
    rw [rp_sR hj (by decide), rp_sR hj (by decide)]
  have eo : ∀ q, q ≠ r → ∀ j, j < 12 → rp (sR (sR s r 6 1) r 7 v) q j = rp s q j := fun q hq j hj => by rw [er q j hj, if_neg (fun z => hq z.1), if_neg (fun z => hq z.1)]
  have ej : ∀ q j, j < 12 → j ≠ 6 → j ≠ 7 → rp (sR (sR s r 6 1) r 7 v) q j = rp s q j := fun q j hj a b => by rw [er q j hj, if_neg (fun z => b z.2), if_neg (fun z => a z.2)]
  refine h.wR (r := r) (fun k hk => by rw [sR_lo hk, sR_lo hk]) eo hF ?_ (fun _ => ?_)
  · exact h.2.1.rel (fun q _ => ⟨ej q 1 (by decide) (by decide) (by decide), ej q 2 (by decide) (by decide) (by decide)⟩) (fun q _ h5 => ⟨by rw [← ej q 3 (by decide) (by decide) (by decide)]; exact h5, ej q 5 (by decide) (by decide) (by decide)⟩) (fun q _ g => Or.inl (by rw [ej q 3 (by decide) (by decide) (by decide)]; exact g)) (fun q _ g => by rw [ej q 3 (by decide) (by decide) (by decide)]; exact g)
  · obtain ⟨a, b, c, d, e⟩ := h.2.2.1 r hr
    have n3 : ¬ rp s r 3 = 3 := by rcases h0 with q | q <;> rw [q] <;> decide
    obtain ⟨z9, z10, z11⟩ := a n3
    refine Qr0 (by rw [ej r 3 (by decide) (by decide) (by decide)]; exact n3) (fun _ => ?_) ((ej r 9 (by decide) (by decide) (by decide)).trans z9) ((ej r 10 (by decide) (by decide) (by decide)).trans z10) ((ej r 11 (by decide) (by decide) (by decide)).trans z11)
    rw [ej r 3 (by decide) (by decide) (by decide)]; exact h0
theorem dec_pt (hI : Iv s nA nH nR) {r : Nat} (hr : r < nR) (v : Int32) : (∀ q j, j < 12 → rp (decS s r v).1 q j = if q = r ∧ j = 4 then v else if q = r ∧ j = 6 then 2 else rp s q j) ∧ (∀ g, g < 9 → gp (decS s r v).1 g = gp s g) ∧ (∀ a j, a < 6 → j < 3 → ap (decS s r v).1 a j = ap s a j) ∧ ∀ h, h < 8 → hp (decS s r v).1 h 0 = hp s h 0 := by
  have h8 := hI.1.2.1.2
  obtain ⟨h, hh, -, ht⟩ := vin (hI.1.2.2.2 r hr).1 (by omega)
  have h0 : h < 8 := by omega
  have ea : (∀ q j, j < 12 → rp (decA s r v) q j = if q = r ∧ j = 4 then v else if q = r ∧ j = 6 then 2 else rp s q j) ∧ (∀ g, g < 9 → gp (decA s r v) g = gp s g) ∧ (∀ a j, a < 6 → j < 3 → ap (decA s r v) a j = ap s a j) ∧ ∀ h j, h < 8 → j < 4 → hp (decA s r v) h j = hp s h j := by
    unfold decA
    exact ⟨fun q j hj => by rw [rp_sR hj (by decide), rp_sR hj (by decide)], fun g hg => by rw [gp_sR hg, gp_sR hg], fun a j ha hj => by rw [ap_sR ha hj, ap_sR ha hj], fun h j hh hj => by rw [hp_sR hh hj, hp_sR hh hj]⟩
  obtain ⟨a1, a2, a3, a4⟩ := ea
  unfold decS
  rw [ht]
  split
  · exact ⟨fun q j hj => by rw [rp_sH h0 (by decide)]; exact a1 q j hj, fun g hg => by rw [gp_sH hg]; exact a2 g hg, fun a j ha hj => by rw [ap_sH ha hj]; exact a3 a j ha hj, fun q hq => by rw [hp_sH (by decide) (by decide), if_neg (by omega)]; exact a4 q 0 hq (by decide)⟩
  · split
    · exact ⟨a1, a2, a3, fun q hq => a4 q 0 hq (by decide)⟩
    · exact ⟨fun q j hj => by rw [rp_sH h0 (by decide)]; exact a1 q j hj, fun g hg => by rw [gp_sH hg]; exact a2 g hg, fun a j ha hj => by rw [ap_sH ha hj]; exact a3 a j ha hj, fun q hq => by rw [hp_sH (by decide) (by decide), if_neg (by omega)]; exact a4 q 0 hq (by decide)⟩
theorem PI.decide (h : PI N s nA nH nR) {r : Nat} (hr : r < nR) (h0 : rp s r 6 = 1) (hF : FI (N + 1) (decS s r v).1 nA nH nR) : PI (N + 1) (decS s r v).1 nA nH nR := by
  have h6 := h.1.1.1.1.2
  have h8 := h.1.1.1.2.1.2
  obtain ⟨er, eg, ea, eh⟩ := dec_pt h.1.1 hr v
  generalize (decS s r v).1 = y at er eg ea eh hF
  have ej : ∀ q j, j < 12 → j ≠ 6 → j ≠ 4 → rp y q j = rp s q j := fun q j hj a b => by rw [er q j hj, if_neg (fun z => b z.2), if_neg (fun z => a z.2)]
  obtain ⟨h1, h2, h3, h4, h5⟩ := h
  refine ⟨hF, ?_, fun q hq => ?_, fun a ha => (h4 a ha).cg (ea a 1 (by omega) (by decide)) (ea a 2 (by omega) (by decide)), h5.cg (sum_c nH (fun q hq => eh q (by omega))) (eg 7 (by decide)) (eg 8 (by decide))⟩
  · exact h2.rel (fun q _ => ⟨ej q 1 (by decide) (by decide) (by decide), ej q 2 (by decide) (by decide) (by decide)⟩) (fun q _ h5 => ⟨by rw [← ej q 3 (by decide) (by decide) (by decide)]; exact h5, ej q 5 (by decide) (by decide) (by decide)⟩) (fun q _ g => Or.inl (by rw [ej q 3 (by decide) (by decide) (by decide)]; exact g)) (fun q _ g => by rw [ej q 3 (by decide) (by decide) (by decide)]; exact g)
  · by_cases e : q = r
    · subst e
      obtain ⟨a, b, c, d, e⟩ := h3 q hq
      have hd := c h0
      have n3 : ¬ rp s q 3 = 3 := by rcases hd with z | z <;> rw [z] <;> decide
      obtain ⟨z9, z10, z11⟩ := a n3
      refine Qr0 (by rw [ej q 3 (by decide) (by decide) (by decide)]; exact n3) (fun _ => ?_) ((ej q 9 (by decide) (by decide) (by decide)).trans z9) ((ej q 10 (by decide) (by decide) (by decide)).trans z10) ((ej q 11 (by decide) (by decide) (by decide)).trans z11)
      rw [ej q 3 (by decide) (by decide) (by decide)]; exact hd
    · exact (h3 q hq).cg (fun j hj => by rw [er q j hj, if_neg (fun z => e z.1), if_neg (fun z => e z.1)])
/-- those folded into one are new again -/
theorem Qr.unf {r q : Nat} (h : Qr s nH q) (hI : Rw s q) (hq : q < nR) : Qr (unfS s nR r).1 nH q := by
  have e := (unf_all s nR r).1 q
  by_cases hu : under s r q
  · obtain ⟨-, -, -, d, -⟩ := hI
    obtain ⟨z4, z6, z7, z9, z10, z11⟩ := d (Or.inr hu.1)
    have e' : ∀ j, j < 12 → rp (unfS s nR r).1 q j = if j = 5 then -10009 else if j = 3 then 0 else rp s q j := fun j hj => by rw [e j hj, if_pos ⟨hq, hu⟩]
    have e6 : rp (unfS s nR r).1 q 6 = 0 := by rw [e' 6 (by decide), if_neg (by decide), if_neg (by decide)]; exact z6
    exact Qr0 (by rw [e' 3 (by decide), if_neg (by decide), if_pos rfl]; decide) (fun z => by rw [e6] at z; exact absurd z (by decide)) (by rw [e' 9 (by decide), if_neg (by decide), if_neg (by decide)]; exact z9) (by rw [e' 10 (by decide), if_neg (by decide), if_neg (by decide)]; exact z10) (by rw [e' 11 (by decide), if_neg (by decide), if_neg (by decide)]; exact z11)
  · exact h.cg (fun j hj => by rw [e j hj, if_neg (fun z => hu z.2)])
theorem Fo.unf {r : Nat} (h : Fo s nR) (h12 : ∀ q, q < nR → rp y q 1 = rp s q 1 ∧ rp y q 2 = rp s q 2) (h5 : ∀ q, q < nR → rp y q 3 = 5 → rp s q 3 = 5 ∧ rp y q 5 = rp s q 5) (h45 : ∀ q, q < nR → q ≠ r → (¬ rp s q 3 = 4 ∧ ¬ rp s q 3 = 5) → ¬ rp y q 3 = 4 ∧ ¬ rp y q 3 = 5) (h4 : ∀ q, q < nR → rp s q 3 = 4 → rp y q 3 = 4) (hr : r < nR) (hr40 : nR ≤ 40) : Fo (unfS y nR r).1 nR := by
  have e := (unf_all y nR r).1
  refine h.rel (fun q hq => ?_) (fun q hq z => ?_) (fun q hq g => ?_) (fun q hq g => ?_)
  · obtain ⟨a, b⟩ := h12 q hq
    rw [e q 1 (by decide), e q 2 (by decide), if_neg (show ¬ 1 = 5 by decide), if_neg (show ¬ 1 = 3 by decide), if_neg (show ¬ 2 = 5 by decide), if_neg (show ¬ 2 = 3 by decide), ite_self, ite_self]
    exact ⟨a, b⟩
  · by_cases hu : under y r q
    · rw [e q 3 (by decide), if_pos ⟨hq, hu⟩, if_neg (by decide), if_pos rfl] at z
      exact absurd z (by decide)
    · rw [e q 3 (by decide), if_neg (fun z => hu z.2)] at z
      rw [e q 5 (by decide), if_neg (fun z => hu z.2)]
      exact h5 q hq z
  · by_cases eq : q = r
    · subst eq
      refine Or.inr (fun k hk hk5 hk6 => ?_)
      by_cases hu : under y q k
      · rw [e k 3 (by decide), if_pos ⟨hk, hu⟩, if_neg (by decide), if_pos rfl] at hk5
        exact absurd hk5 (by decide)
      · rw [e k 3 (by decide), if_neg (fun z => hu z.2)] at hk5
        obtain ⟨a, b⟩ := h5 k hk hk5
        exact hu ⟨hk5, b.trans hk6⟩
    · obtain ⟨g4, g5⟩ := h45 q hq eq g
      refine Or.inl ?_
      rw [e q 3 (by decide), if_neg (fun z => g5 z.2.1)]
      exact ⟨g4, g5⟩
  · have := h4 q hq g
    rw [e q 3 (by decide), if_neg (fun z => by have := z.2.1; rw [‹rp y q 3 = 4›] at this; exact absurd this (by decide))]
    exact this
theorem PI.refuse (h : PI N s nA nH nR) {r : Nat} (hr : r < nR) (h0 : rp s r 3 = 0 ∨ rp s r 3 = 1 ∨ rp s r 3 = 2) (hap : ¬ rp s r 6 = 1) (hF1 : FI (N + 1) (sR s r 3 4) nA nH nR) (hF : FI (N + 1) (unfS (sR s r 3 4) nR r).1 nA nH nR) : PI (N + 1) (unfS (sR s r 3 4) nR r).1 nA nH nR := by
  have h6 := h.1.1.1.1.2
  have h8 := h.1.1.1.2.1.2
  have h40 := h.1.1.1.2.2.1.2
  have lo : ∀ k, k < 59 → (unfS (sR s r 3 4) nR r).1 k = s k := fun k hk => (unf_off _ nR r h40 hk).trans (sR_lo hk)
  have er : ∀ q j, j < 12 → rp (sR s r 3 4) q j = if q = r ∧ j = 3 then 4 else rp s q j := fun q j hj => rp_sR hj (by decide)
  have e3 : rp (sR s r 3 4) r 3 = 4 := by rw [er r 3 (by decide), if_pos ⟨rfl, rfl⟩]
  have eo : ∀ q, q ≠ r → ∀ j, j < 12 → rp (sR s r 3 4) q j = rp s q j := fun q hq j hj => by rw [er q j hj, if_neg (fun z => hq z.1)]
  have ej : ∀ q j, j < 12 → j ≠ 3 → rp (sR s r 3 4) q j = rp s q j := fun q j hj b => by rw [er q j hj, if_neg (fun z => b z.2)]
  obtain ⟨h1, h2, h3, h4, h5⟩ := h
  refine ⟨hF, ?_, fun q hq => ?_, fun a ha => (h4 a ha).cg (by unfold ap; exact lo _ (by omega)) (by unfold ap; exact lo _ (by omega)), h5.cg (sum_c nH (fun q hq => by unfold hp; exact lo _ (by omega))) (lo 7 (by omega)) (lo 8 (by omega))⟩
  · refine h2.unf (fun q _ => ⟨ej q 1 (by decide) (by decide), ej q 2 (by decide) (by decide)⟩) (fun q _ z => ?_) (fun q _ e g => by rw [eo q e 3 (by decide)]; exact g) (fun q _ g => ?_) hr h40
    · by_cases e : q = r
      · subst e; rw [e3] at z; exact absurd z (by decide)
      · rw [eo q e 3 (by decide)] at z; exact ⟨z, eo q e 5 (by decide)⟩
    · by_cases e : q = r
      · subst e; exact e3
      · rw [eo q e 3 (by decide)]; exact g
  · refine Qr.unf ?_ (hF1.1.2 q hq) hq
    by_cases e : q = r
    · subst e
      obtain ⟨a, b, c, d, e⟩ := h3 q hq
      have n3 : ¬ rp s q 3 = 3 := by rcases h0 with z | z | z <;> rw [z] <;> decide
      obtain ⟨z9, z10, z11⟩ := a n3
      exact Qr0 (by rw [e3]; decide) (fun z => by rw [ej q 6 (by decide) (by decide)] at z; exact absurd z hap) ((ej q 9 (by decide) (by decide)).trans z9) ((ej q 10 (by decide) (by decide)).trans z10) ((ej q 11 (by decide) (by decide)).trans z11)
    · exact (h3 q hq).cg (fun j hj => eo q e j hj)
/-- paid, or waiting -/
theorem Fo.ss (h : Fo s nR) (k : SS nR s y) : Fo y nR := by
  have k4 := k.2.2.2
  refine h.rel (fun q hq => ⟨(k4 q hq).1 1 (by decide) (by decide) (by decide), (k4 q hq).1 2 (by decide) (by decide) (by decide)⟩) (fun q hq z => ?_) (fun q hq g => Or.inl ?_) (fun q hq g => ?_)
  · refine ⟨?_, (k4 q hq).1 5 (by decide) (by decide) (by decide)⟩
    rcases (k4 q hq).2 with ⟨a, -⟩ | ⟨-, -, ⟨a, -⟩ | ⟨a, -⟩⟩
    · rw [← a]; exact z
    · rw [a] at z; exact absurd z (by decide)
    · rw [a] at z; exact absurd z (by decide)
  · rcases (k4 q hq).2 with ⟨a, -⟩ | ⟨-, -, ⟨a, -⟩ | ⟨a, -⟩⟩
    · rw [a]; exact g
    · rw [a]; decide
    · rw [a]; decide
  · rcases (k4 q hq).2 with ⟨a, -⟩ | ⟨u, -, -⟩
    · rw [a]; exact g
    · rcases u with u | u <;> rw [g] at u <;> exact absurd u (by decide)
theorem Qr.ss {q : Nat} (h : Qr s nH q) (hq : q < nR) (k : SS nR s y) (hI : Iv s nA nH nR) (hb : Bd Rb Mb Nb s nA nH) : Qr y nH q := by
  obtain ⟨ej, hs⟩ := k.2.2.2 q hq
  have e6 := ej 6 (by decide) (by decide) (by decide)
  have e9 := ej 9 (by decide) (by decide) (by decide)
  have e10 := ej 10 (by decide) (by decide) (by decide)
  have e11 := ej 11 (by decide) (by decide) (by decide)
  rcases hs with ⟨a, b⟩ | ⟨u, w, c⟩
  · exact h.to a e6 b e9 e10 e11
  · obtain ⟨h1, h2, h3, h4, h5⟩ := h
    have n3 : ¬ rp s q 3 = 3 := by rcases u with z | z <;> rw [z] <;> decide
    obtain ⟨z9, z10, z11⟩ := h1 n3
    refine ⟨fun _ => ⟨e9.trans z9, e10.trans z10, e11.trans z11⟩, fun z => ?_, fun z => absurd (e6.symm.trans z) w, by rw [e9, e10, e11]; exact h4, by rw [e10, e11]; exact h5⟩
    obtain ⟨p, ep, p1, p2⟩ := price_n hI hb hq (due4 (hI.2 q hq) u)
    rcases c with ⟨c1, -⟩ | ⟨-, c2⟩
    · rw [c1] at z; exact absurd z (by decide)
    · exact ⟨p, c2.trans ep, p1, p2⟩
theorem PI.pay (h : PI N s nA nH nR) (hN : N < 400) {r : Nat} (hr : r < nR) (hd : isDue s r) (hap : ¬ rp s r 6 = 1) (hF : FI (N + 1) (paysS s nR r).1 nA nH nR) : PI (N + 1) (paysS s nR r).1 nA nH nR := by
  obtain ⟨h1, h2, h3, h4, h5, h6, h7⟩ := h
  have hrb := h1.rb
  obtain ⟨j2, j3, ⟨j4, j5, j6⟩, j7, j8, j9⟩ := pays_all h1.1 h1.2 (by omega) hr hd hap h4
  refine ⟨hF, h2.ss j2, fun q hq => (h3 q hq).ss hq j2 h1.1 h1.2, j7, ?_, ?_, ?_⟩
  · rw [j4, j5, j6, h5]; grind
  · rw [j5]
    obtain ⟨i, hi, ei⟩ := vp_in_of h6 (by omega)
    obtain ⟨p, ep, p1, p2⟩ := price_n h1.1 h1.2 hr (due4 (h1.1.2 r hr) hd)
    rw [ei]
    rcases j8 with ⟨-, e⟩ | ⟨-, -, e⟩
    · rw [e, Int32.add_zero]; exact in_n (by omega) (by omega)
    · rw [e, ep, nI_add]; exact in_n (by omega) (by omega)
  · rw [j6]; exact in_mono h7 (by omega)
theorem PI.pass (h : PI N s nA nH nR) (hN : N < 400) {q k : Nat} (hq : q ≤ 5) {c : Int32} {x : St} (hk : Qd nA nH nR q s x c) (hF : FI (N + 1) (sG x 0 v) nA nH nR) : PI (N + 1) (sG x 0 v) nA nH nR := by
  obtain ⟨h1, h2, h3, h4, h5, h6, h7⟩ := h
  obtain ⟨a1, -, ⟨a3, a4⟩, a5, -, -, e, a10, a11⟩ := hk
  have er : ∀ q j, rp (sG x 0 v) q j = rp x q j := fun q j => d_rp q j
  refine ⟨hF, (h2.ss a1).cg (fun q _ j _ => er q j), fun q hq => ((h3 q hq).ss hq a1 h1.1 h1.2).cg (fun j _ => er q j), fun a ha => (a5 a ha).cg (d_ap a 1) (d_ap a 2), ?_, ?_, ?_⟩
  · have e1 : huS (sG x 0 v) nH = huS x nH := sum_c nH (fun q _ => d_hp q 0)
    rw [e1, d_gp 7 (by decide), d_gp 8 (by decide), a4]
    grind
  · rw [d_gp 7 (by decide), a10]
    obtain ⟨i, hi, ei⟩ := vp_in_of h6 (by omega)
    rw [ei, nI_add]; exact in_n (by omega) (by omega)
  · rw [d_gp 8 (by decide), a4]; exact in_mono h7 (by omega)
end INV2
