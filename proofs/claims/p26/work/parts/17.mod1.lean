/-! the model's methods, one by one: the small ones -/
section MOD1
variable {xl : Nat} {xs : Nat → Int32} {F : pm_F} {I : Nat → Nat → Int32} {o : Nat} {s : St} {M : pm_H}
theorem at_sum (b c x j : Nat) : nI b + nI c * nI x + nI j = nI (b + c * x + j) := by rw [pk_mul, nI_add, nI_add]
theorem rng_n {n : Nat} (hn : n ≤ 1000) (v : Int32) : (v < 0 ∨ nI n - 1 < v) ↔ out v n := by
  cases n with
  | zero =>
    constructor
    · intro _
      exact Or.inr (Nat.zero_le _)
    · intro _
      by_cases h : v < 0
      · exact Or.inl h
      · refine Or.inr ?_
        obtain ⟨j, hj, rfl⟩ := nI_of h
        have h2 := nI_pos' hj
        rw [Int32.lt_iff_toInt_lt]
        rw [nI_toInt hj]
        show (nI 0 - 1).toInt < _
        have : (nI 0 - 1).toInt = -1 := by decide
        omega
  | succ n =>
    rw [nI_pred]
    constructor
    · rintro (h | h)
      · exact Or.inl h
      · by_cases h0 : v < 0
        · exact Or.inl h0
        · obtain ⟨j, hj, rfl⟩ := nI_of h0
          rw [nI_ltI (by omega) hj] at h
          refine Or.inr ?_
          rw [nI_clamp hj]
          exact h
    · rintro (h | h)
      · exact Or.inl h
      · by_cases h0 : v < 0
        · exact Or.inl h0
        · obtain ⟨j, hj, rfl⟩ := nI_of h0
          rw [nI_clamp hj] at h
          refine Or.inr ?_
          rw [nI_ltI (by omega) hj]
          omega
theorem d100 : ¬ (100 : Int32) = 0 := by decide
theorem d10 : ¬ (10 : Int32) = 0 := by decide
theorem d90 : ¬ (90 : Int32) = 0 := by decide
end MOD1

