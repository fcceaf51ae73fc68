/-! retest -/
section RETE
variable {xl : Nat} {xs : Nat → Int32} {F : pm_F} {I : Nat → Nat → Int32} {N : Nat} {s s' : St} {nA nH nR : Nat} {v : Int32}
theorem n01 : ((0 : Int32) = 1) = False := eq_false (by decide)
theorem FI.bon (hF : FI N s nA nH nR) (hN : N ≤ 2000) : FI (N + 1) (bonS s nH v) nA nH nR := by
  have := hF.rb
  exact FI.mk hF.1.bon (bon_gp hF.1) (hF.2.bon hF.1 (by omega) (by omega) (by omega)) (by omega) (by omega)
theorem FI.rG (hF : FI N s nA nH nR) (hN : N ≤ 2000) {h r : Nat} (hh : h < 8) (hrR : r < nR) (h3 : rp s r 3 = 3) : FI (N + 1) (retG s nH h r).1 nA nH nR := by
  have h8 := hF.1.1.2.1.2
  have h40 := hF.1.1.2.2.1.2
  have hr : r < 40 := by omega
  have hs : ¬ (rp s r 3 = 0 ∨ rp s r 3 = 5) := by rw [h3]; decide
  have ht : vp_in (tel s r 10 h) 256 := or_on (hF.1.2 r hrR).2.1.2.1 hh
  have f1 : FI N (sR s r 10 (tel s r 10 h)) nA nH nR := hF.wR hr (by decide) (by decide) (by decide) (fun _ => (hF.1.2 r hrR).w10 ht hs)
  unfold retG
  split
  · exact f1.mono (Nat.le_succ N)
  · have f2 := f1.bon (v := tel s r 10 h) hN
    exact f2.wR hr (by decide) (by decide) (by decide) (fun q => (f2.1.2 r q).w9 z1 (by rw [bon_rp _ h8, rp_sR (by decide) (by decide), if_neg (by omega)]; exact hs))
theorem FI.aga (hF : FI N s nA nH nR) {r : Nat} (hrR : r < nR) (h5 : rp s r 5 = -10009) (h9 : rp s r 9 = 0) : FI N (agaA s r) nA nH nR := by
  have h6 := hF.1.1.1.2
  have h8 := hF.1.1.2.1.2
  refine FI.mk (s := s) (hF.1.aga hrR h5 h9) ?_ ((((((hF.2.wR h6 h8).wR h6 h8).wR h6 h8).wR h6 h8).wR h6 h8).wR h6 h8) (Nat.le_refl _) (Nat.le_refl _)
  unfold agaA
  rw [gp_sR (by decide), gp_sR (by decide), gp_sR (by decide), gp_sR (by decide), gp_sR (by decide), gp_sR (by decide)]
theorem FI.rT (hF : FI N s nA nH nR) (hN : N ≤ 2000) {h r : Nat} (hh : h < 8) (hrR : r < nR) (h3 : rp s r 3 = 3) (h9 : rp s r 9 = 0) : FI (N + 1) (retT s nH nR h r).1 nA nH nR := by
  have h8 := hF.1.1.2.1.2
  have h40 := hF.1.1.2.2.1.2
  have hr : r < 40 := by omega
  have hs : ¬ (rp s r 3 = 0 ∨ rp s r 3 = 5) := by rw [h3]; decide
  have h5 : rp s r 5 = -10009 := (hF.1.2 r hrR).2.2.1 (by rw [h3]; decide)
  have ht : vp_in (tel s r 11 h) 256 := or_on (hF.1.2 r hrR).2.1.2.2 hh
  have f1 : FI N (sR s r 11 (tel s r 11 h)) nA nH nR := hF.wR hr (by decide) (by decide) (by decide) (fun _ => (hF.1.2 r hrR).w11 ht hs)
  unfold retT
  split
  · exact f1.mono (Nat.le_succ N)
  · have f2 := f1.bon (v := tel s r 11 h) hN
    exact (f2.aga hrR (by rw [bon_rp _ h8, rp_sR (by decide) (by decide), if_neg (by omega)]; exact h5) (by rw [bon_rp _ h8, rp_sR (by decide) (by decide), if_neg (by omega)]; exact h9)).unfs
end RETE

