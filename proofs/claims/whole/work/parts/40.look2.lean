/-! lack and best as calls -/
section LOOK2
variable {xl : Nat} {xs : Nat → Int32} {F : pm_F} {I J : Nat → Nat → Int32} {N : Nat} {s : St} {nA nH nR Rb Mb Nb : Nat} {p f : Nat → Int32}
/-- cells that hold nothing between calls -/
theorem Full.off (h : Full N I) (hJ : ∀ k, k ≤ 58 ∨ 118 ≤ k ∧ k < 582 ∨ k = 583 ∨ k = 584 ∨ k = 585 → J k = I k) : Full N J := by
  obtain ⟨n, m, H, nA, nH, nR, h1, h2, h3, h4, h5⟩ := h
  have e4 : J 584 = I 584 := hJ 584 (by omega)
  refine ⟨n, m, H, nA, nH, nR, ?_, by rw [e4]; exact h2, h3.to (hJ 0 (by omega)) (fun k g1 g2 => hJ k (by omega)), ?_⟩
  · rw [e4]
    exact h1.to h2.1.1.1.2 h2.1.1.2.1.2 h2.1.1.2.2.1.2 (fun k g1 g2 => hJ k (by omega)) (fun _ _ => rfl)
  · exact ⟨by rw [hJ 583 (by omega)]; exact h4, fun j hj k hk => by rw [hJ 585 (by omega)]; exact h5 j hj k hk⟩
theorem op_lack (hD : LD F) (hM : LM F 583) (hF : Full N I) : Step F N I (fun M => pm_ev tb xl xs mX4_lack 0 [some (.ref 0), none, none] [] M) (fun M => pm_ev tb xl xs mX5_lack 0 [some (.ref 583), none, none, none] [] M) := by
  have hFull := hF
  obtain ⟨n, m, H, nA, nH, nR, hR, hFI, hC, hMH⟩ := hF
  generalize hs : I 584 = s at hR hFI
  have hB := ldB hD
  have h6 := hFI.1.1.1.2
  have h8 := hFI.1.1.2.1.2
  have h40 := hFI.1.1.2.2.1.2
  have hnA := hFI.1.1.1.1
  have hnH := hFI.1.1.2.1.1
  have hnR := hFI.1.1.2.2.1.1
  have hn8 := hC.2.2.2.1
  have qA : I 1 3 = nI nA := (rbg3 hR).trans hnA
  have qH : I 1 4 = nI nH := (rbg4 hR).trans hnH
  have qR : I 1 5 = nI nR := (rbg5 hR).trans hnR
  have eI : row I 584 s = I := by rw [← hs]; exact row_self
  have hrb := hFI.rb
  obtain ⟨g, hg, hg2⟩ := vp_in_of hFI.2.1.2.1 (by omega)
  have e1 := X4_lack_ev (xl := xl) (xs := xs) hD hR hFI.1 hFI.2 (by omega) hg2 (by omega)
  obtain ⟨p', e2⟩ := X5_lack_ev (xl := xl) (xs := xs) (F := F) (I := I) hM hFI.1 hFI.2 hg2 (by omega)
  rw [eI] at e2
  refine ⟨_, I, row (row I 587 p') 584 s, e1, e2, (hFull.mono (Nat.le_succ N)).off (fun k hk => ?_)⟩
  by_cases h4 : k = 584
  · rw [h4, row_s, hs]
  · rw [row_n h4, row_n (by omega)]
end LOOK2
