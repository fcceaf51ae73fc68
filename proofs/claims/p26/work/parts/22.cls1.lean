/-! what holds of the row; the class's methods that look -/
def Rw (s : St) (r : Nat) : Prop :=
  (vp_in (rp s r 3) 6 ∧ vp_in (rp s r 4) 5 ∧ vp_in (rp s r 6) 3 ∧ vp_in (rp s r 7) 5) ∧ (zb (rp s r 9) ∧ vp_in (rp s r 10) 256 ∧ vp_in (rp s r 11) 256) ∧
  (¬ rp s r 3 = 5 → rp s r 5 = -10009) ∧
  (rp s r 3 = 0 ∨ rp s r 3 = 5 → rp s r 4 = 0 ∧ rp s r 6 = 0 ∧ rp s r 7 = 0 ∧ rp s r 9 = 0 ∧ rp s r 10 = 0 ∧ rp s r 11 = 0) ∧
  (rp s r 3 = 1 ∨ rp s r 3 = 2 ∨ rp s r 3 = 3 → ¬ rp s r 4 = 0)
def Iv (s : St) (nA nH nR : Nat) : Prop := Ty s nA nH nR ∧ ∀ r, r < nR → Rw s r
theorem ix40 {i : Nat} (h : i < 40) : vp_in (nI i) 40 := ix_n h (by omega)
theorem ix8 {i : Nat} (h : i < 8) : vp_in (nI i) 8 := ix_n h (by omega)
theorem ix6 {i : Nat} (h : i < 6) : vp_in (nI i) 6 := ix_n h (by omega)
theorem cl40 {i : Nat} (h : i < 40) : (nI i).toNatClampNeg = i := cl_n (by omega)
theorem cl8 {i : Nat} (h : i < 8) : (nI i).toNatClampNeg = i := cl_n (by omega)
theorem cl6 {i : Nat} (h : i < 6) : (nI i).toNatClampNeg = i := cl_n (by omega)
theorem none_ne {r : Nat} (hr : r < 1000) : ¬ (-10009 : Int32) = nI r := by
  intro h
  have := congrArg Int32.toInt h
  rw [nI_toInt (by omega)] at this
  have h2 : (-10009 : Int32).toInt = -10009 := by decide
  omega
/-- folded into: by the number alone -/
theorem into_iff {s : St} {q r : Nat} (h : ¬ rp s q 3 = 5 → rp s q 5 = -10009) (hr : r < 1000) : (rp s q 5 = nI r) = under s r q := by
  refine propext ⟨fun e => ⟨?_, e⟩, fun e => e.2⟩
  by_cases h5 : rp s q 3 = 5
  · exact h5
  · rw [h h5] at e
    exact absurd e (none_ne hr)
theorem st_cases {x : Int32} (h : vp_in x 6) : x = 0 ∨ x = 1 ∨ x = 2 ∨ x = 3 ∨ x = 4 ∨ x = 5 := by
  obtain ⟨i, hi, rfl, -⟩ := vin h (by omega)
  match i, hi with
  | 0, _ => exact Or.inl rfl
  | 1, _ => exact Or.inr (Or.inl rfl)
  | 2, _ => exact Or.inr (Or.inr (Or.inl rfl))
  | 3, _ => exact Or.inr (Or.inr (Or.inr (Or.inl rfl)))
  | 4, _ => exact Or.inr (Or.inr (Or.inr (Or.inr (Or.inl rfl))))
  | 5, _ => exact Or.inr (Or.inr (Or.inr (Or.inr (Or.inr rfl))))
theorem v6_0 : vp_in 0 6 := vp_in_nI (n := 0) (by decide) (by decide)
theorem v6_1 : vp_in 1 6 := vp_in_nI (n := 1) (by decide) (by decide)
theorem v6_2 : vp_in 2 6 := vp_in_nI (n := 2) (by decide) (by decide)
theorem v6_3 : vp_in 3 6 := vp_in_nI (n := 3) (by decide) (by decide)
theorem v6_4 : vp_in 4 6 := vp_in_nI (n := 4) (by decide) (by decide)
theorem v6_5 : vp_in 5 6 := vp_in_nI (n := 5) (by decide) (by decide)
theorem v5_0 : vp_in 0 5 := vp_in_nI (n := 0) (by decide) (by decide)
theorem v5_1 : vp_in 1 5 := vp_in_nI (n := 1) (by decide) (by decide)
theorem v5_2 : vp_in 2 5 := vp_in_nI (n := 2) (by decide) (by decide)
theorem v5_3 : vp_in 3 5 := vp_in_nI (n := 3) (by decide) (by decide)
theorem v5_4 : vp_in 4 5 := vp_in_nI (n := 4) (by decide) (by decide)
theorem v3_0 : vp_in 0 3 := vp_in_nI (n := 0) (by decide) (by decide)
theorem v3_1 : vp_in 1 3 := vp_in_nI (n := 1) (by decide) (by decide)
theorem v3_2 : vp_in 2 3 := vp_in_nI (n := 2) (by decide) (by decide)
theorem v256_0 : vp_in 0 256 := vp_in_nI (n := 0) (by decide) (by decide)
section CLS1
variable {xl : Nat} {xs : Nat → Int32} {F : pm_F} {I : Nat → Nat → Int32} {o : Nat} {s : St} {nA nH nR : Nat}
theorem add_ite {x : Int32} {c : Prop} [Decidable c] {y : Int32} : (x + if c then y else 0) = if c then x + y else x := by split <;> simp
theorem rng_i {n : Nat} (hn : n ≤ 1000) (v : Int32) : (if v < 0 then (0 : Int32) else if v < nI n then 1 else 0) = if out v n then 0 else 1 := by
  by_cases h : v < 0
  · rw [if_pos h, if_pos (Or.inl h)]
  · rw [if_neg h]
    obtain ⟨j, hj, rfl⟩ := nI_of h
    have hc : (nI j < nI n) = (j < n) := propext (nI_ltI hj (by omega))
    by_cases h2 : j < n
    · rw [if_pos (by rw [hc]; exact h2), if_neg]
      rintro (q | q)
      · exact h q
      · rw [nI_clamp hj] at q; omega
    · rw [if_neg (by rw [hc]; exact h2), if_pos]
      exact Or.inr (by rw [nI_clamp hj]; omega)
theorem X4_isOutside_ev {M : pm_H} {v a b : Int32} : pm_ev tb xl xs mX4_isOutside 0 [some (.int v), some (.int a), some (.int b)] [] M = some (some (.int (if v < a ∨ b < v then 1 else 0)), M) := by
  simp only [eX4_isOutside_0, eX4_isOutside_1, eX4_isOutside_2, eX4_isOutside_5, eX4_isOutside_6, eX4_isOutside_7, eX4_isOutside_10, eX4_isOutside_11, eX4_isOutside_14, eX4_isOutside_15, one0, and_false, false_and, gk, gr, gi, gs, rv_some, ret_i, ret_n, Option.bind_some, List.cons_append, List.nil_append, z0, z1, zi, zj, i10, i01, true_or, or_true, eq_self, not_false_eq_true, not_true_eq_false, if_true, if_false, ite_not, Decidable.not_not, and_true, true_and, or_false, false_or, Nat.reduceLeDiff, Nat.reduceMod, Nat.reduceEqDiff]
  by_cases h1 : v < a <;> by_cases h2 : b < v <;> simp [h1, h2]
theorem X1_hasAsset_ev (hB : LB F o) {n : Nat} (hn : I o 3 = nI n) (hn2 : n ≤ 1000) {v : Int32} : pm_ev tb xl xs mX1_hasAsset 0 [some (.ref o), some (.int v)] [] (pm_G F I) = some (some (.int (if out v n then 0 else 1)), pm_G F I) := by
  simp only [eX1_hasAsset_0, eX1_hasAsset_1, eX1_hasAsset_4, eX1_hasAsset_5, eX1_hasAsset_6, eX1_hasAsset_9, eX1_hasAsset_12, eX1_hasAsset_13, eX1_hasAsset_16, eX1_hasAsset_17, one0, and_false, false_and, gk, gr, gi, gs, rv_some, ret_i, ret_n, Option.bind_some, List.cons_append, List.nil_append, z0, z1, zi, zj, i10, i01, true_or, or_true, eq_self, not_false_eq_true, not_true_eq_false, if_true, if_false, ite_not, Decidable.not_not, and_true, true_and, or_false, false_or, Nat.reduceLeDiff, Nat.reduceMod, Nat.reduceEqDiff, lb0 hB, lb1 hB, lb2 hB, lb3 hB, lb4 hB, lb5 hB, lb6 hB, hn]
  rw [← rng_i hn2 v]
  by_cases h1 : v < 0
  · rw [if_pos h1, if_pos h1]
  · by_cases h2 : v < nI n
    · rw [if_neg h1, if_neg h1, if_pos h2, if_pos h2]
    · rw [if_neg h1, if_neg h1, if_neg h2, if_neg h2]
theorem X1_hasHunter_ev (hB : LB F o) {n : Nat} (hn : I o 4 = nI n) (hn2 : n ≤ 1000) {v : Int32} : pm_ev tb xl xs mX1_hasHunter 0 [some (.ref o), some (.int v)] [] (pm_G F I) = some (some (.int (if out v n then 0 else 1)), pm_G F I) := by
  simp only [eX1_hasHunter_0, eX1_hasHunter_1, eX1_hasHunter_4, eX1_hasHunter_5, eX1_hasHunter_6, eX1_hasHunter_9, eX1_hasHunter_12, eX1_hasHunter_13, eX1_hasHunter_16, eX1_hasHunter_17, one0, and_false, false_and, gk, gr, gi, gs, rv_some, ret_i, ret_n, Option.bind_some, List.cons_append, List.nil_append, z0, z1, zi, zj, i10, i01, true_or, or_true, eq_self, not_false_eq_true, not_true_eq_false, if_true, if_false, ite_not, Decidable.not_not, and_true, true_and, or_false, false_or, Nat.reduceLeDiff, Nat.reduceMod, Nat.reduceEqDiff, lb0 hB, lb1 hB, lb2 hB, lb3 hB, lb4 hB, lb5 hB, lb6 hB, hn]
  rw [← rng_i hn2 v]
  by_cases h1 : v < 0
  · rw [if_pos h1, if_pos h1]
  · by_cases h2 : v < nI n
    · rw [if_neg h1, if_neg h1, if_pos h2, if_pos h2]
    · rw [if_neg h1, if_neg h1, if_neg h2, if_neg h2]
theorem X1_hasReport_ev (hB : LB F o) {n : Nat} (hn : I o 5 = nI n) (hn2 : n ≤ 1000) {v : Int32} : pm_ev tb xl xs mX1_hasReport 0 [some (.ref o), some (.int v)] [] (pm_G F I) = some (some (.int (if out v n then 0 else 1)), pm_G F I) := by
  simp only [eX1_hasReport_0, eX1_hasReport_1, eX1_hasReport_4, eX1_hasReport_5, eX1_hasReport_6, eX1_hasReport_9, eX1_hasReport_12, eX1_hasReport_13, eX1_hasReport_16, eX1_hasReport_17, one0, and_false, false_and, gk, gr, gi, gs, rv_some, ret_i, ret_n, Option.bind_some, List.cons_append, List.nil_append, z0, z1, zi, zj, i10, i01, true_or, or_true, eq_self, not_false_eq_true, not_true_eq_false, if_true, if_false, ite_not, Decidable.not_not, and_true, true_and, or_false, false_or, Nat.reduceLeDiff, Nat.reduceMod, Nat.reduceEqDiff, lb0 hB, lb1 hB, lb2 hB, lb3 hB, lb4 hB, lb5 hB, lb6 hB, hn]
  rw [← rng_i hn2 v]
  by_cases h1 : v < 0
  · rw [if_pos h1, if_pos h1]
  · by_cases h2 : v < nI n
    · rw [if_neg h1, if_neg h1, if_pos h2, if_pos h2]
    · rw [if_neg h1, if_neg h1, if_neg h2, if_neg h2]
theorem X3_isPayable_ev (hB : LB F o) {r : Nat} (hr : r < 40) : pm_ev tb xl xs mX3_isPayable 0 [some (.ref (o + 18 + r))] [] (pm_G F I) = some (some (.int (if I (o + 18 + r) 3 = 1 ∨ I (o + 18 + r) 3 = 2 then 1 else 0)), pm_G F I) := by
  simp only [eX3_isPayable_0, eX3_isPayable_1, eX3_isPayable_4, eX3_isPayable_5, eX3_isPayable_8, eX3_isPayable_9, eX3_isPayable_12, eX3_isPayable_13, eX3_isPayable_16, eX3_isPayable_17, eX3_isPayable_20, eX3_isPayable_21, one0, and_false, false_and, gk, gr, gi, gs, rv_some, ret_i, ret_n, Option.bind_some, List.cons_append, List.nil_append, z0, z1, zi, zj, i10, i01, true_or, or_true, eq_self, not_false_eq_true, not_true_eq_false, if_true, if_false, ite_not, Decidable.not_not, and_true, true_and, or_false, false_or, Nat.reduceLeDiff, Nat.reduceMod, Nat.reduceEqDiff, lbr hB hr, lbr2 hB hr, ix40 hr, cl40 hr]
  by_cases h1 : I (o + 18 + r) 3 = 1 <;> by_cases h2 : I (o + 18 + r) 3 = 2 <;> simp [h1, h2]
theorem X3_hasSeverity_ev (hB : LB F o) {r : Nat} (hr : r < 40) : pm_ev tb xl xs mX3_hasSeverity 0 [some (.ref (o + 18 + r))] [] (pm_G F I) = some (some (.int (if I (o + 18 + r) 3 = 1 ∨ I (o + 18 + r) 3 = 2 ∨ I (o + 18 + r) 3 = 3 then 1 else 0)), pm_G F I) := by
  simp only [eX3_hasSeverity_0, eX3_hasSeverity_1, eX3_hasSeverity_4, eX3_hasSeverity_7, eX3_hasSeverity_8, eX3_hasSeverity_11, eX3_hasSeverity_12, eX3_hasSeverity_15, eX3_hasSeverity_16, eX3_hasSeverity_19, eX3_hasSeverity_20, one0, and_false, false_and, gk, gr, gi, gs, rv_some, ret_i, ret_n, Option.bind_some, List.cons_append, List.nil_append, z0, z1, zi, zj, i10, i01, true_or, or_true, eq_self, not_false_eq_true, not_true_eq_false, if_true, if_false, ite_not, Decidable.not_not, and_true, true_and, or_false, false_or, Nat.reduceLeDiff, Nat.reduceMod, Nat.reduceEqDiff, lbr hB hr, lbr2 hB hr, ix40 hr, cl40 hr, X3_isPayable_ev hB hr]
  by_cases h1 : I (o + 18 + r) 3 = 1 <;> by_cases h2 : I (o + 18 + r) 3 = 2 <;> by_cases h3 : I (o + 18 + r) 3 = 3 <;> simp [h1, h2, h3]
theorem X3_tellsSameAs_ev (hB : LB F o) {q r : Nat} (hq : q < 40) (hr : r < 40) : pm_ev tb xl xs mX3_tellsSameAs 0 [some (.ref (o + 18 + q)), some (.ref (o + 18 + r))] [] (pm_G F I) = some (some (.int (if I (o + 18 + q) 1 = I (o + 18 + r) 1 ∧ I (o + 18 + q) 2 = I (o + 18 + r) 2 then 1 else 0)), pm_G F I) := by
  simp only [eX3_tellsSameAs_0, eX3_tellsSameAs_1, eX3_tellsSameAs_4, eX3_tellsSameAs_5, eX3_tellsSameAs_8, eX3_tellsSameAs_11, eX3_tellsSameAs_12, eX3_tellsSameAs_15, eX3_tellsSameAs_16, eX3_tellsSameAs_19, eX3_tellsSameAs_22, eX3_tellsSameAs_23, eX3_tellsSameAs_26, eX3_tellsSameAs_27, one0, and_false, false_and, gk, gr, gi, gs, rv_some, ret_i, ret_n, Option.bind_some, List.cons_append, List.nil_append, z0, z1, zi, zj, i10, i01, true_or, or_true, eq_self, not_false_eq_true, not_true_eq_false, if_true, if_false, ite_not, Decidable.not_not, and_true, true_and, or_false, false_or, Nat.reduceLeDiff, Nat.reduceMod, Nat.reduceEqDiff, lbr hB hr, lbr2 hB hr, ix40 hr, cl40 hr, lbr hB hq, lbr2 hB hq]
  by_cases h1 : I (o + 18 + q) 1 = I (o + 18 + r) 1 <;> by_cases h2 : I (o + 18 + q) 2 = I (o + 18 + r) 2 <;> simp [h1, h2]
theorem X1_priceWith_ev (hB : LB F o) (hR : RB I o s nA nH nR) (hT : Ty s nA nH nR) {r : Nat} (hrR : r < nR) {v : Int32} : pm_ev tb xl xs mX1_priceWith 0 [some (.ref o), some (.ref (o + 18 + r)), some (.int v)] [] (pm_G F I) = some (some (.int (prS s r v)), pm_G F I) := by
  have hr : r < 40 := by have := hT.2.2.1.2; omega
  obtain ⟨a, haA, hra, ht⟩ := vin (hT.2.2.2 r hrR).2 (by have := hT.1.2; omega)
  have ha : a < 6 := by have := hT.1.2; omega
  simp only [eX1_priceWith_0, eX1_priceWith_1, eX1_priceWith_2, eX1_priceWith_3, eX1_priceWith_4, eX1_priceWith_7, eX1_priceWith_8, eX1_priceWith_11, eX1_priceWith_12, eX1_priceWith_15, eX1_priceWith_16, eX1_priceWith_18, eX1_priceWith_19, eX1_priceWith_20, eX1_priceWith_23, eX1_priceWith_24, eX1_priceWith_26, eX1_priceWith_27, one0, and_false, false_and, gk, gr, gi, gs, rv_some, ret_i, ret_n, Option.bind_some, List.cons_append, List.nil_append, z0, z1, zi, zj, i10, i01, true_or, or_true, eq_self, not_false_eq_true, not_true_eq_false, if_true, if_false, ite_not, Decidable.not_not, and_true, true_and, or_false, false_or, Nat.reduceLeDiff, Nat.reduceMod, Nat.reduceEqDiff, lb0 hB, lb1 hB, lb2 hB, lb3 hB, lb4 hB, lb5 hB, lb6 hB, lbr hB hr, lbr2 hB hr, ix40 hr, cl40 hr, lba hB ha, lba2 hB ha, ix6 ha, cl6 ha, rbr0 hR hrR, rbr1 hR hrR, rbr2 hR hrR, rbr3 hR hrR, rbr4 hR hrR, rbr5 hR hrR, rbr6 hR hrR, rbr7 hR hrR, rbr8 hR hrR, rbr9 hR hrR, rbr10 hR hrR, rbr11 hR hrR, rbg3 hR, rbg4 hR, rbg5 hR, rbg6 hR, rbg7 hR, rbg8 hR, rbg9 hR, rbg10 hR, rbg11 hR, rba0 hR haA, rba1 hR haA, rba2 hR haA, hra, d100, prS, tn_n (show a < 2147483648 by omega)]
theorem X1_priceOf_ev (hB : LB F o) (hR : RB I o s nA nH nR) (hT : Ty s nA nH nR) {r : Nat} (hrR : r < nR) : pm_ev tb xl xs mX1_priceOf 0 [some (.ref o), some (.ref (o + 18 + r))] [] (pm_G F I) = some (some (.int (price s r)), pm_G F I) := by
  have hr : r < 40 := by have := hT.2.2.1.2; omega
  simp only [eX1_priceOf_0, eX1_priceOf_1, eX1_priceOf_2, eX1_priceOf_3, eX1_priceOf_6, eX1_priceOf_9, one0, and_false, false_and, gk, gr, gi, gs, rv_some, ret_i, ret_n, Option.bind_some, List.cons_append, List.nil_append, z0, z1, zi, zj, i10, i01, true_or, or_true, eq_self, not_false_eq_true, not_true_eq_false, if_true, if_false, ite_not, Decidable.not_not, and_true, true_and, or_false, false_or, Nat.reduceLeDiff, Nat.reduceMod, Nat.reduceEqDiff, lb0 hB, lb1 hB, lb2 hB, lb3 hB, lb4 hB, lb5 hB, lb6 hB, lbr hB hr, lbr2 hB hr, ix40 hr, cl40 hr, rbr0 hR hrR, rbr1 hR hrR, rbr2 hR hrR, rbr3 hR hrR, rbr4 hR hrR, rbr5 hR hrR, rbr6 hR hrR, rbr7 hR hrR, rbr8 hR hrR, rbr9 hR hrR, rbr10 hR hrR, rbr11 hR hrR, X1_priceWith_ev hB hR hT hrR, price]
theorem X1_reportsInState_ev (hB : LB F o) (hR : RB I o s nA nH nR) (hT : Iv s nA nH nR) {v : Int32} : pm_ev tb xl xs mX1_reportsInState 0 [some (.ref o), some (.int v), none, none] [] (pm_G F I) = some (some (.int (sum (fun r => if rp s r 3 = v then 1 else 0) nR)), pm_G F I) := by
  have h40 := hT.1.2.2.1.2
  have hn := hT.1.2.2.1.1
  simp only [eX1_reportsInState_0, eX1_reportsInState_1, eX1_reportsInState_2, eX1_reportsInState_3, eX1_reportsInState_5, eX1_reportsInState_6, eX1_reportsInState_9, eX1_reportsInState_12, eX1_reportsInState_13, eX1_reportsInState_16, eX1_reportsInState_17, eX1_reportsInState_18, eX1_reportsInState_21, eX1_reportsInState_22, eX1_reportsInState_25, eX1_reportsInState_28, eX1_reportsInState_31, eX1_reportsInState_34, eX1_reportsInState_35, one0, and_false, false_and, gk, gr, gi, gs, rv_some, ret_i, ret_n, Option.bind_some, List.cons_append, List.nil_append, z0, z1, zi, zj, i10, i01, true_or, or_true, eq_self, not_false_eq_true, not_true_eq_false, if_true, if_false, ite_not, Decidable.not_not, and_true, true_and, or_false, false_or, Nat.reduceLeDiff, Nat.reduceMod, Nat.reduceEqDiff]
  refine (lp_ev0 nR (fun i x => pm_ev tb xl xs mX1_reportsInState 4 [some (.ref o), some (.int v), some (.int x), some (.int (nI i))] [] (pm_G F I)) (fun r x => x + if rp s r 3 = v then 1 else 0) (fun i x hrR => ?_) 0).trans ?_
  · have hr : i < 40 := by omega
    rw [eX1_reportsInState_4]
    simp only [eX1_reportsInState_0, eX1_reportsInState_1, eX1_reportsInState_2, eX1_reportsInState_3, eX1_reportsInState_5, eX1_reportsInState_6, eX1_reportsInState_9, eX1_reportsInState_12, eX1_reportsInState_13, eX1_reportsInState_16, eX1_reportsInState_17, eX1_reportsInState_18, eX1_reportsInState_21, eX1_reportsInState_22, eX1_reportsInState_25, eX1_reportsInState_28, eX1_reportsInState_31, eX1_reportsInState_34, eX1_reportsInState_35, one0, and_false, false_and, gk, gr, gi, gs, rv_some, ret_i, ret_n, Option.bind_some, List.cons_append, List.nil_append, z0, z1, zi, zj, i10, i01, true_or, or_true, eq_self, not_false_eq_true, not_true_eq_false, if_true, if_false, ite_not, Decidable.not_not, and_true, true_and, or_false, false_or, Nat.reduceLeDiff, Nat.reduceMod, Nat.reduceEqDiff, lb0 hB, lb1 hB, lb2 hB, lb3 hB, lb4 hB, lb5 hB, lb6 hB, lbr hB hr, lbr2 hB hr, ix40 hr, cl40 hr, rbg3 hR, rbg4 hR, rbg5 hR, rbg6 hR, rbg7 hR, rbg8 hR, rbg9 hR, rbg10 hR, rbg11 hR, rbr0 hR hrR, rbr1 hR hrR, rbr2 hR hrR, rbr3 hR hrR, rbr4 hR hrR, rbr5 hR hrR, rbr6 hR hrR, rbr7 hR hrR, rbr8 hR hrR, rbr9 hR hrR, rbr10 hR hrR, rbr11 hR hrR, hn, lt_t hrR (by omega), nI_1, add_ite]
    split <;> rfl
  · rw [eX1_reportsInState_4]
    simp only [eX1_reportsInState_0, eX1_reportsInState_1, eX1_reportsInState_2, eX1_reportsInState_3, eX1_reportsInState_5, eX1_reportsInState_6, eX1_reportsInState_9, eX1_reportsInState_12, eX1_reportsInState_13, eX1_reportsInState_16, eX1_reportsInState_17, eX1_reportsInState_18, eX1_reportsInState_21, eX1_reportsInState_22, eX1_reportsInState_25, eX1_reportsInState_28, eX1_reportsInState_31, eX1_reportsInState_34, eX1_reportsInState_35, one0, and_false, false_and, gk, gr, gi, gs, rv_some, ret_i, ret_n, Option.bind_some, List.cons_append, List.nil_append, z0, z1, zi, zj, i10, i01, true_or, or_true, eq_self, not_false_eq_true, not_true_eq_false, if_true, if_false, ite_not, Decidable.not_not, and_true, true_and, or_false, false_or, Nat.reduceLeDiff, Nat.reduceMod, Nat.reduceEqDiff, lb0 hB, lb1 hB, lb2 hB, lb3 hB, lb4 hB, lb5 hB, lb6 hB, rbg3 hR, rbg4 hR, rbg5 hR, rbg6 hR, rbg7 hR, rbg8 hR, rbg9 hR, rbg10 hR, rbg11 hR, hn, lt_f (Nat.le_refl nR) (by omega)]
theorem X1_reportsFor_ev (hB : LB F o) (hR : RB I o s nA nH nR) (hT : Iv s nA nH nR) {v : Int32} : pm_ev tb xl xs mX1_reportsFor 0 [some (.ref o), some (.int v), none, none] [] (pm_G F I) = some (some (.int (sum (fun r => if rp s r 1 = v then 1 else 0) nR)), pm_G F I) := by
  have h40 := hT.1.2.2.1.2
  have hn := hT.1.2.2.1.1
  simp only [eX1_reportsFor_0, eX1_reportsFor_1, eX1_reportsFor_2, eX1_reportsFor_3, eX1_reportsFor_5, eX1_reportsFor_6, eX1_reportsFor_9, eX1_reportsFor_12, eX1_reportsFor_13, eX1_reportsFor_16, eX1_reportsFor_17, eX1_reportsFor_18, eX1_reportsFor_21, eX1_reportsFor_22, eX1_reportsFor_25, eX1_reportsFor_28, eX1_reportsFor_31, eX1_reportsFor_34, eX1_reportsFor_35, one0, and_false, false_and, gk, gr, gi, gs, rv_some, ret_i, ret_n, Option.bind_some, List.cons_append, List.nil_append, z0, z1, zi, zj, i10, i01, true_or, or_true, eq_self, not_false_eq_true, not_true_eq_false, if_true, if_false, ite_not, Decidable.not_not, and_true, true_and, or_false, false_or, Nat.reduceLeDiff, Nat.reduceMod, Nat.reduceEqDiff]
  refine (lp_ev0 nR (fun i x => pm_ev tb xl xs mX1_reportsFor 4 [some (.ref o), some (.int v), some (.int x), some (.int (nI i))] [] (pm_G F I)) (fun r x => x + if rp s r 1 = v then 1 else 0) (fun i x hrR => ?_) 0).trans ?_
  · have hr : i < 40 := by omega
    rw [eX1_reportsFor_4]
    simp only [eX1_reportsFor_0, eX1_reportsFor_1, eX1_reportsFor_2, eX1_reportsFor_3, eX1_reportsFor_5, eX1_reportsFor_6, eX1_reportsFor_9, eX1_reportsFor_12, eX1_reportsFor_13, eX1_reportsFor_16, eX1_reportsFor_17, eX1_reportsFor_18, eX1_reportsFor_21, eX1_reportsFor_22, eX1_reportsFor_25, eX1_reportsFor_28, eX1_reportsFor_31, eX1_reportsFor_34, eX1_reportsFor_35, one0, and_false, false_and, gk, gr, gi, gs, rv_some, ret_i, ret_n, Option.bind_some, List.cons_append, List.nil_append, z0, z1, zi, zj, i10, i01, true_or, or_true, eq_self, not_false_eq_true, not_true_eq_false, if_true, if_false, ite_not, Decidable.not_not, and_true, true_and, or_false, false_or, Nat.reduceLeDiff, Nat.reduceMod, Nat.reduceEqDiff, lb0 hB, lb1 hB, lb2 hB, lb3 hB, lb4 hB, lb5 hB, lb6 hB, lbr hB hr, lbr2 hB hr, ix40 hr, cl40 hr, rbg3 hR, rbg4 hR, rbg5 hR, rbg6 hR, rbg7 hR, rbg8 hR, rbg9 hR, rbg10 hR, rbg11 hR, rbr0 hR hrR, rbr1 hR hrR, rbr2 hR hrR, rbr3 hR hrR, rbr4 hR hrR, rbr5 hR hrR, rbr6 hR hrR, rbr7 hR hrR, rbr8 hR hrR, rbr9 hR hrR, rbr10 hR hrR, rbr11 hR hrR, hn, lt_t hrR (by omega), nI_1, add_ite]
    split <;> rfl
  · rw [eX1_reportsFor_4]
    simp only [eX1_reportsFor_0, eX1_reportsFor_1, eX1_reportsFor_2, eX1_reportsFor_3, eX1_reportsFor_5, eX1_reportsFor_6, eX1_reportsFor_9, eX1_reportsFor_12, eX1_reportsFor_13, eX1_reportsFor_16, eX1_reportsFor_17, eX1_reportsFor_18, eX1_reportsFor_21, eX1_reportsFor_22, eX1_reportsFor_25, eX1_reportsFor_28, eX1_reportsFor_31, eX1_reportsFor_34, eX1_reportsFor_35, one0, and_false, false_and, gk, gr, gi, gs, rv_some, ret_i, ret_n, Option.bind_some, List.cons_append, List.nil_append, z0, z1, zi, zj, i10, i01, true_or, or_true, eq_self, not_false_eq_true, not_true_eq_false, if_true, if_false, ite_not, Decidable.not_not, and_true, true_and, or_false, false_or, Nat.reduceLeDiff, Nat.reduceMod, Nat.reduceEqDiff, lb0 hB, lb1 hB, lb2 hB, lb3 hB, lb4 hB, lb5 hB, lb6 hB, rbg3 hR, rbg4 hR, rbg5 hR, rbg6 hR, rbg7 hR, rbg8 hR, rbg9 hR, rbg10 hR, rbg11 hR, hn, lt_f (Nat.le_refl nR) (by omega)]
theorem X1_reportsBy_ev (hB : LB F o) (hR : RB I o s nA nH nR) (hT : Iv s nA nH nR) {v : Int32} : pm_ev tb xl xs mX1_reportsBy 0 [some (.ref o), some (.int v), none, none] [] (pm_G F I) = some (some (.int (sum (fun r => if rp s r 0 = v then 1 else 0) nR)), pm_G F I) := by
  have h40 := hT.1.2.2.1.2
  have hn := hT.1.2.2.1.1
  simp only [eX1_reportsBy_0, eX1_reportsBy_1, eX1_reportsBy_2, eX1_reportsBy_3, eX1_reportsBy_5, eX1_reportsBy_6, eX1_reportsBy_9, eX1_reportsBy_12, eX1_reportsBy_13, eX1_reportsBy_16, eX1_reportsBy_17, eX1_reportsBy_18, eX1_reportsBy_21, eX1_reportsBy_22, eX1_reportsBy_25, eX1_reportsBy_28, eX1_reportsBy_31, eX1_reportsBy_34, eX1_reportsBy_35, one0, and_false, false_and, gk, gr, gi, gs, rv_some, ret_i, ret_n, Option.bind_some, List.cons_append, List.nil_append, z0, z1, zi, zj, i10, i01, true_or, or_true, eq_self, not_false_eq_true, not_true_eq_false, if_true, if_false, ite_not, Decidable.not_not, and_true, true_and, or_false, false_or, Nat.reduceLeDiff, Nat.reduceMod, Nat.reduceEqDiff]
  refine (lp_ev0 nR (fun i x => pm_ev tb xl xs mX1_reportsBy 4 [some (.ref o), some (.int v), some (.int x), some (.int (nI i))] [] (pm_G F I)) (fun r x => x + if rp s r 0 = v then 1 else 0) (fun i x hrR => ?_) 0).trans ?_
  · have hr : i < 40 := by omega
    rw [eX1_reportsBy_4]
    simp only [eX1_reportsBy_0, eX1_reportsBy_1, eX1_reportsBy_2, eX1_reportsBy_3, eX1_reportsBy_5, eX1_reportsBy_6, eX1_reportsBy_9, eX1_reportsBy_12, eX1_reportsBy_13, eX1_reportsBy_16, eX1_reportsBy_17, eX1_reportsBy_18, eX1_reportsBy_21, eX1_reportsBy_22, eX1_reportsBy_25, eX1_reportsBy_28, eX1_reportsBy_31, eX1_reportsBy_34, eX1_reportsBy_35, one0, and_false, false_and, gk, gr, gi, gs, rv_some, ret_i, ret_n, Option.bind_some, List.cons_append, List.nil_append, z0, z1, zi, zj, i10, i01, true_or, or_true, eq_self, not_false_eq_true, not_true_eq_false, if_true, if_false, ite_not, Decidable.not_not, and_true, true_and, or_false, false_or, Nat.reduceLeDiff, Nat.reduceMod, Nat.reduceEqDiff, lb0 hB, lb1 hB, lb2 hB, lb3 hB, lb4 hB, lb5 hB, lb6 hB, lbr hB hr, lbr2 hB hr, ix40 hr, cl40 hr, rbg3 hR, rbg4 hR, rbg5 hR, rbg6 hR, rbg7 hR, rbg8 hR, rbg9 hR, rbg10 hR, rbg11 hR, rbr0 hR hrR, rbr1 hR hrR, rbr2 hR hrR, rbr3 hR hrR, rbr4 hR hrR, rbr5 hR hrR, rbr6 hR hrR, rbr7 hR hrR, rbr8 hR hrR, rbr9 hR hrR, rbr10 hR hrR, rbr11 hR hrR, hn, lt_t hrR (by omega), nI_1, add_ite]
    split <;> rfl
  · rw [eX1_reportsBy_4]
    simp only [eX1_reportsBy_0, eX1_reportsBy_1, eX1_reportsBy_2, eX1_reportsBy_3, eX1_reportsBy_5, eX1_reportsBy_6, eX1_reportsBy_9, eX1_reportsBy_12, eX1_reportsBy_13, eX1_reportsBy_16, eX1_reportsBy_17, eX1_reportsBy_18, eX1_reportsBy_21, eX1_reportsBy_22, eX1_reportsBy_25, eX1_reportsBy_28, eX1_reportsBy_31, eX1_reportsBy_34, eX1_reportsBy_35, one0, and_false, false_and, gk, gr, gi, gs, rv_some, ret_i, ret_n, Option.bind_some, List.cons_append, List.nil_append, z0, z1, zi, zj, i10, i01, true_or, or_true, eq_self, not_false_eq_true, not_true_eq_false, if_true, if_false, ite_not, Decidable.not_not, and_true, true_and, or_false, false_or, Nat.reduceLeDiff, Nat.reduceMod, Nat.reduceEqDiff, lb0 hB, lb1 hB, lb2 hB, lb3 hB, lb4 hB, lb5 hB, lb6 hB, rbg3 hR, rbg4 hR, rbg5 hR, rbg6 hR, rbg7 hR, rbg8 hR, rbg9 hR, rbg10 hR, rbg11 hR, hn, lt_f (Nat.le_refl nR) (by omega)]
theorem X1_openAppeals_ev (hB : LB F o) (hR : RB I o s nA nH nR) (hT : Iv s nA nH nR) : pm_ev tb xl xs mX1_openAppeals 0 [some (.ref o), none, none] [] (pm_G F I) = some (some (.int (sum (fun r => if rp s r 6 = 1 then 1 else 0) nR)), pm_G F I) := by
  have h40 := hT.1.2.2.1.2
  have hn := hT.1.2.2.1.1
  simp only [eX1_openAppeals_0, eX1_openAppeals_1, eX1_openAppeals_2, eX1_openAppeals_3, eX1_openAppeals_5, eX1_openAppeals_6, eX1_openAppeals_9, eX1_openAppeals_12, eX1_openAppeals_13, eX1_openAppeals_16, eX1_openAppeals_17, eX1_openAppeals_18, eX1_openAppeals_21, eX1_openAppeals_22, eX1_openAppeals_25, eX1_openAppeals_28, eX1_openAppeals_31, eX1_openAppeals_34, eX1_openAppeals_35, one0, and_false, false_and, gk, gr, gi, gs, rv_some, ret_i, ret_n, Option.bind_some, List.cons_append, List.nil_append, z0, z1, zi, zj, i10, i01, true_or, or_true, eq_self, not_false_eq_true, not_true_eq_false, if_true, if_false, ite_not, Decidable.not_not, and_true, true_and, or_false, false_or, Nat.reduceLeDiff, Nat.reduceMod, Nat.reduceEqDiff]
  refine (lp_ev0 nR (fun i x => pm_ev tb xl xs mX1_openAppeals 4 [some (.ref o), some (.int x), some (.int (nI i))] [] (pm_G F I)) (fun r x => x + if rp s r 6 = 1 then 1 else 0) (fun i x hrR => ?_) 0).trans ?_
  · have hr : i < 40 := by omega
    rw [eX1_openAppeals_4]
    simp only [eX1_openAppeals_0, eX1_openAppeals_1, eX1_openAppeals_2, eX1_openAppeals_3, eX1_openAppeals_5, eX1_openAppeals_6, eX1_openAppeals_9, eX1_openAppeals_12, eX1_openAppeals_13, eX1_openAppeals_16, eX1_openAppeals_17, eX1_openAppeals_18, eX1_openAppeals_21, eX1_openAppeals_22, eX1_openAppeals_25, eX1_openAppeals_28, eX1_openAppeals_31, eX1_openAppeals_34, eX1_openAppeals_35, one0, and_false, false_and, gk, gr, gi, gs, rv_some, ret_i, ret_n, Option.bind_some, List.cons_append, List.nil_append, z0, z1, zi, zj, i10, i01, true_or, or_true, eq_self, not_false_eq_true, not_true_eq_false, if_true, if_false, ite_not, Decidable.not_not, and_true, true_and, or_false, false_or, Nat.reduceLeDiff, Nat.reduceMod, Nat.reduceEqDiff, lb0 hB, lb1 hB, lb2 hB, lb3 hB, lb4 hB, lb5 hB, lb6 hB, lbr hB hr, lbr2 hB hr, ix40 hr, cl40 hr, rbg3 hR, rbg4 hR, rbg5 hR, rbg6 hR, rbg7 hR, rbg8 hR, rbg9 hR, rbg10 hR, rbg11 hR, rbr0 hR hrR, rbr1 hR hrR, rbr2 hR hrR, rbr3 hR hrR, rbr4 hR hrR, rbr5 hR hrR, rbr6 hR hrR, rbr7 hR hrR, rbr8 hR hrR, rbr9 hR hrR, rbr10 hR hrR, rbr11 hR hrR, hn, lt_t hrR (by omega), nI_1, add_ite]
    split <;> rfl
  · rw [eX1_openAppeals_4]
    simp only [eX1_openAppeals_0, eX1_openAppeals_1, eX1_openAppeals_2, eX1_openAppeals_3, eX1_openAppeals_5, eX1_openAppeals_6, eX1_openAppeals_9, eX1_openAppeals_12, eX1_openAppeals_13, eX1_openAppeals_16, eX1_openAppeals_17, eX1_openAppeals_18, eX1_openAppeals_21, eX1_openAppeals_22, eX1_openAppeals_25, eX1_openAppeals_28, eX1_openAppeals_31, eX1_openAppeals_34, eX1_openAppeals_35, one0, and_false, false_and, gk, gr, gi, gs, rv_some, ret_i, ret_n, Option.bind_some, List.cons_append, List.nil_append, z0, z1, zi, zj, i10, i01, true_or, or_true, eq_self, not_false_eq_true, not_true_eq_false, if_true, if_false, ite_not, Decidable.not_not, and_true, true_and, or_false, false_or, Nat.reduceLeDiff, Nat.reduceMod, Nat.reduceEqDiff, lb0 hB, lb1 hB, lb2 hB, lb3 hB, lb4 hB, lb5 hB, lb6 hB, rbg3 hR, rbg4 hR, rbg5 hR, rbg6 hR, rbg7 hR, rbg8 hR, rbg9 hR, rbg10 hR, rbg11 hR, hn, lt_f (Nat.le_refl nR) (by omega)]
theorem X1_foldedReports_ev (hB : LB F o) (hR : RB I o s nA nH nR) (hT : Iv s nA nH nR) {k : Nat} (hk : k < 1000) : pm_ev tb xl xs mX1_foldedReports 0 [some (.ref o), some (.int (nI k)), none, none] [] (pm_G F I) = some (some (.int (sum (fun r => if under s k r then 1 else 0) nR)), pm_G F I) := by
  have h40 := hT.1.2.2.1.2
  have hn := hT.1.2.2.1.1
  simp only [eX1_foldedReports_0, eX1_foldedReports_1, eX1_foldedReports_2, eX1_foldedReports_3, eX1_foldedReports_5, eX1_foldedReports_6, eX1_foldedReports_9, eX1_foldedReports_12, eX1_foldedReports_13, eX1_foldedReports_16, eX1_foldedReports_17, eX1_foldedReports_18, eX1_foldedReports_21, eX1_foldedReports_22, eX1_foldedReports_25, eX1_foldedReports_28, eX1_foldedReports_31, eX1_foldedReports_34, eX1_foldedReports_35, one0, and_false, false_and, gk, gr, gi, gs, rv_some, ret_i, ret_n, Option.bind_some, List.cons_append, List.nil_append, z0, z1, zi, zj, i10, i01, true_or, or_true, eq_self, not_false_eq_true, not_true_eq_false, if_true, if_false, ite_not, Decidable.not_not, and_true, true_and, or_false, false_or, Nat.reduceLeDiff, Nat.reduceMod, Nat.reduceEqDiff]
  refine (lp_ev0 nR (fun i x => pm_ev tb xl xs mX1_foldedReports 4 [some (.ref o), some (.int (nI k)), some (.int x), some (.int (nI i))] [] (pm_G F I)) (fun r x => x + if under s k r then 1 else 0) (fun i x hrR => ?_) 0).trans ?_
  · have hr : i < 40 := by omega
    rw [eX1_foldedReports_4]
    simp only [eX1_foldedReports_0, eX1_foldedReports_1, eX1_foldedReports_2, eX1_foldedReports_3, eX1_foldedReports_5, eX1_foldedReports_6, eX1_foldedReports_9, eX1_foldedReports_12, eX1_foldedReports_13, eX1_foldedReports_16, eX1_foldedReports_17, eX1_foldedReports_18, eX1_foldedReports_21, eX1_foldedReports_22, eX1_foldedReports_25, eX1_foldedReports_28, eX1_foldedReports_31, eX1_foldedReports_34, eX1_foldedReports_35, one0, and_false, false_and, gk, gr, gi, gs, rv_some, ret_i, ret_n, Option.bind_some, List.cons_append, List.nil_append, z0, z1, zi, zj, i10, i01, true_or, or_true, eq_self, not_false_eq_true, not_true_eq_false, if_true, if_false, ite_not, Decidable.not_not, and_true, true_and, or_false, false_or, Nat.reduceLeDiff, Nat.reduceMod, Nat.reduceEqDiff, lb0 hB, lb1 hB, lb2 hB, lb3 hB, lb4 hB, lb5 hB, lb6 hB, lbr hB hr, lbr2 hB hr, ix40 hr, cl40 hr, rbg3 hR, rbg4 hR, rbg5 hR, rbg6 hR, rbg7 hR, rbg8 hR, rbg9 hR, rbg10 hR, rbg11 hR, rbr0 hR hrR, rbr1 hR hrR, rbr2 hR hrR, rbr3 hR hrR, rbr4 hR hrR, rbr5 hR hrR, rbr6 hR hrR, rbr7 hR hrR, rbr8 hR hrR, rbr9 hR hrR, rbr10 hR hrR, rbr11 hR hrR, hn, lt_t hrR (by omega), nI_1, add_ite, into_iff (hT.2 i hrR).2.2.1 hk]
    split <;> rfl
  · rw [eX1_foldedReports_4]
    simp only [eX1_foldedReports_0, eX1_foldedReports_1, eX1_foldedReports_2, eX1_foldedReports_3, eX1_foldedReports_5, eX1_foldedReports_6, eX1_foldedReports_9, eX1_foldedReports_12, eX1_foldedReports_13, eX1_foldedReports_16, eX1_foldedReports_17, eX1_foldedReports_18, eX1_foldedReports_21, eX1_foldedReports_22, eX1_foldedReports_25, eX1_foldedReports_28, eX1_foldedReports_31, eX1_foldedReports_34, eX1_foldedReports_35, one0, and_false, false_and, gk, gr, gi, gs, rv_some, ret_i, ret_n, Option.bind_some, List.cons_append, List.nil_append, z0, z1, zi, zj, i10, i01, true_or, or_true, eq_self, not_false_eq_true, not_true_eq_false, if_true, if_false, ite_not, Decidable.not_not, and_true, true_and, or_false, false_or, Nat.reduceLeDiff, Nat.reduceMod, Nat.reduceEqDiff, lb0 hB, lb1 hB, lb2 hB, lb3 hB, lb4 hB, lb5 hB, lb6 hB, rbg3 hR, rbg4 hR, rbg5 hR, rbg6 hR, rbg7 hR, rbg8 hR, rbg9 hR, rbg10 hR, rbg11 hR, hn, lt_f (Nat.le_refl nR) (by omega)]
theorem X1_moneyInPools_ev (hB : LB F o) (hR : RB I o s nA nH nR) (hT : Iv s nA nH nR) : pm_ev tb xl xs mX1_moneyInPools 0 [some (.ref o), none, none] [] (pm_G F I) = some (some (.int (sum (fun a => ap s a 2) nA)), pm_G F I) := by
  have h6 := hT.1.1.2
  have hn := hT.1.1.1
  simp only [eX1_moneyInPools_0, eX1_moneyInPools_1, eX1_moneyInPools_2, eX1_moneyInPools_3, eX1_moneyInPools_5, eX1_moneyInPools_6, eX1_moneyInPools_9, eX1_moneyInPools_12, eX1_moneyInPools_13, eX1_moneyInPools_14, eX1_moneyInPools_17, eX1_moneyInPools_18, eX1_moneyInPools_19, eX1_moneyInPools_22, eX1_moneyInPools_23, eX1_moneyInPools_24, eX1_moneyInPools_27, eX1_moneyInPools_30, eX1_moneyInPools_31, one0, and_false, false_and, gk, gr, gi, gs, rv_some, ret_i, ret_n, Option.bind_some, List.cons_append, List.nil_append, z0, z1, zi, zj, i10, i01, true_or, or_true, eq_self, not_false_eq_true, not_true_eq_false, if_true, if_false, ite_not, Decidable.not_not, and_true, true_and, or_false, false_or, Nat.reduceLeDiff, Nat.reduceMod, Nat.reduceEqDiff]
  refine (lp_ev0 nA (fun i x => pm_ev tb xl xs mX1_moneyInPools 4 [some (.ref o), some (.int x), some (.int (nI i))] [] (pm_G F I)) (fun a x => x + ap s a 2) (fun i x haA => ?_) 0).trans ?_
  · have ha : i < 6 := by omega
    rw [eX1_moneyInPools_4]
    simp only [eX1_moneyInPools_0, eX1_moneyInPools_1, eX1_moneyInPools_2, eX1_moneyInPools_3, eX1_moneyInPools_5, eX1_moneyInPools_6, eX1_moneyInPools_9, eX1_moneyInPools_12, eX1_moneyInPools_13, eX1_moneyInPools_14, eX1_moneyInPools_17, eX1_moneyInPools_18, eX1_moneyInPools_19, eX1_moneyInPools_22, eX1_moneyInPools_23, eX1_moneyInPools_24, eX1_moneyInPools_27, eX1_moneyInPools_30, eX1_moneyInPools_31, one0, and_false, false_and, gk, gr, gi, gs, rv_some, ret_i, ret_n, Option.bind_some, List.cons_append, List.nil_append, z0, z1, zi, zj, i10, i01, true_or, or_true, eq_self, not_false_eq_true, not_true_eq_false, if_true, if_false, ite_not, Decidable.not_not, and_true, true_and, or_false, false_or, Nat.reduceLeDiff, Nat.reduceMod, Nat.reduceEqDiff, lb0 hB, lb1 hB, lb2 hB, lb3 hB, lb4 hB, lb5 hB, lb6 hB, lba hB ha, lba2 hB ha, ix6 ha, cl6 ha, rbg3 hR, rbg4 hR, rbg5 hR, rbg6 hR, rbg7 hR, rbg8 hR, rbg9 hR, rbg10 hR, rbg11 hR, rba0 hR haA, rba1 hR haA, rba2 hR haA, hn, lt_t haA (by omega), nI_1]
  · rw [eX1_moneyInPools_4]
    simp only [eX1_moneyInPools_0, eX1_moneyInPools_1, eX1_moneyInPools_2, eX1_moneyInPools_3, eX1_moneyInPools_5, eX1_moneyInPools_6, eX1_moneyInPools_9, eX1_moneyInPools_12, eX1_moneyInPools_13, eX1_moneyInPools_14, eX1_moneyInPools_17, eX1_moneyInPools_18, eX1_moneyInPools_19, eX1_moneyInPools_22, eX1_moneyInPools_23, eX1_moneyInPools_24, eX1_moneyInPools_27, eX1_moneyInPools_30, eX1_moneyInPools_31, one0, and_false, false_and, gk, gr, gi, gs, rv_some, ret_i, ret_n, Option.bind_some, List.cons_append, List.nil_append, z0, z1, zi, zj, i10, i01, true_or, or_true, eq_self, not_false_eq_true, not_true_eq_false, if_true, if_false, ite_not, Decidable.not_not, and_true, true_and, or_false, false_or, Nat.reduceLeDiff, Nat.reduceMod, Nat.reduceEqDiff, lb0 hB, lb1 hB, lb2 hB, lb3 hB, lb4 hB, lb5 hB, lb6 hB, rbg3 hR, rbg4 hR, rbg5 hR, rbg6 hR, rbg7 hR, rbg8 hR, rbg9 hR, rbg10 hR, rbg11 hR, hn, lt_f (Nat.le_refl nA) (by omega)]
theorem X1_payablePrices_ev (hB : LB F o) (hR : RB I o s nA nH nR) (hT : Iv s nA nH nR) {v : Int32} : pm_ev tb xl xs mX1_payablePrices 0 [some (.ref o), some (.int v), none, none] [] (pm_G F I) = some (some (.int (sum (fun r => if rp s r 1 = v ∧ isDue s r then price s r else 0) nR)), pm_G F I) := by
  have h40 := hT.1.2.2.1.2
  have hn := hT.1.2.2.1.1
  simp only [eX1_payablePrices_0, eX1_payablePrices_1, eX1_payablePrices_2, eX1_payablePrices_3, eX1_payablePrices_5, eX1_payablePrices_6, eX1_payablePrices_9, eX1_payablePrices_12, eX1_payablePrices_13, eX1_payablePrices_16, eX1_payablePrices_17, eX1_payablePrices_18, eX1_payablePrices_21, eX1_payablePrices_22, eX1_payablePrices_25, eX1_payablePrices_26, eX1_payablePrices_29, eX1_payablePrices_30, eX1_payablePrices_31, eX1_payablePrices_34, eX1_payablePrices_37, eX1_payablePrices_38, eX1_payablePrices_39, eX1_payablePrices_40, eX1_payablePrices_43, eX1_payablePrices_44, eX1_payablePrices_45, eX1_payablePrices_48, eX1_payablePrices_49, eX1_payablePrices_50, eX1_payablePrices_53, eX1_payablePrices_56, eX1_payablePrices_57, one0, and_false, false_and, gk, gr, gi, gs, rv_some, ret_i, ret_n, Option.bind_some, List.cons_append, List.nil_append, z0, z1, zi, zj, i10, i01, true_or, or_true, eq_self, not_false_eq_true, not_true_eq_false, if_true, if_false, ite_not, Decidable.not_not, and_true, true_and, or_false, false_or, Nat.reduceLeDiff, Nat.reduceMod, Nat.reduceEqDiff]
  refine (lp_ev0 nR (fun i x => pm_ev tb xl xs mX1_payablePrices 4 [some (.ref o), some (.int v), some (.int x), some (.int (nI i))] [] (pm_G F I)) (fun r x => x + if rp s r 1 = v ∧ isDue s r then price s r else 0) (fun i x hrR => ?_) 0).trans ?_
  · have hr : i < 40 := by omega
    rw [eX1_payablePrices_4]
    simp only [eX1_payablePrices_0, eX1_payablePrices_1, eX1_payablePrices_2, eX1_payablePrices_3, eX1_payablePrices_5, eX1_payablePrices_6, eX1_payablePrices_9, eX1_payablePrices_12, eX1_payablePrices_13, eX1_payablePrices_16, eX1_payablePrices_17, eX1_payablePrices_18, eX1_payablePrices_21, eX1_payablePrices_22, eX1_payablePrices_25, eX1_payablePrices_26, eX1_payablePrices_29, eX1_payablePrices_30, eX1_payablePrices_31, eX1_payablePrices_34, eX1_payablePrices_37, eX1_payablePrices_38, eX1_payablePrices_39, eX1_payablePrices_40, eX1_payablePrices_43, eX1_payablePrices_44, eX1_payablePrices_45, eX1_payablePrices_48, eX1_payablePrices_49, eX1_payablePrices_50, eX1_payablePrices_53, eX1_payablePrices_56, eX1_payablePrices_57, one0, and_false, false_and, gk, gr, gi, gs, rv_some, ret_i, ret_n, Option.bind_some, List.cons_append, List.nil_append, z0, z1, zi, zj, i10, i01, true_or, or_true, eq_self, not_false_eq_true, not_true_eq_false, if_true, if_false, ite_not, Decidable.not_not, and_true, true_and, or_false, false_or, Nat.reduceLeDiff, Nat.reduceMod, Nat.reduceEqDiff, lb0 hB, lb1 hB, lb2 hB, lb3 hB, lb4 hB, lb5 hB, lb6 hB, lbr hB hr, lbr2 hB hr, ix40 hr, cl40 hr, rbg3 hR, rbg4 hR, rbg5 hR, rbg6 hR, rbg7 hR, rbg8 hR, rbg9 hR, rbg10 hR, rbg11 hR, rbr0 hR hrR, rbr1 hR hrR, rbr2 hR hrR, rbr3 hR hrR, rbr4 hR hrR, rbr5 hR hrR, rbr6 hR hrR, rbr7 hR hrR, rbr8 hR hrR, rbr9 hR hrR, rbr10 hR hrR, rbr11 hR hrR, X3_isPayable_ev hB hr, X1_priceOf_ev hB hR hT.1 hrR, hn, lt_t hrR (by omega), nI_1, add_ite]
    by_cases h1 : rp s i 1 = v
    · rw [if_pos h1]
      by_cases h2 : isDue s i
      · rw [if_pos h2, if_pos ⟨h1, h2⟩]
      · rw [if_neg h2, if_neg (fun q => h2 q.2)]
    · rw [if_neg h1, if_neg (fun q => h1 q.1)]
  · rw [eX1_payablePrices_4]
    simp only [eX1_payablePrices_0, eX1_payablePrices_1, eX1_payablePrices_2, eX1_payablePrices_3, eX1_payablePrices_5, eX1_payablePrices_6, eX1_payablePrices_9, eX1_payablePrices_12, eX1_payablePrices_13, eX1_payablePrices_16, eX1_payablePrices_17, eX1_payablePrices_18, eX1_payablePrices_21, eX1_payablePrices_22, eX1_payablePrices_25, eX1_payablePrices_26, eX1_payablePrices_29, eX1_payablePrices_30, eX1_payablePrices_31, eX1_payablePrices_34, eX1_payablePrices_37, eX1_payablePrices_38, eX1_payablePrices_39, eX1_payablePrices_40, eX1_payablePrices_43, eX1_payablePrices_44, eX1_payablePrices_45, eX1_payablePrices_48, eX1_payablePrices_49, eX1_payablePrices_50, eX1_payablePrices_53, eX1_payablePrices_56, eX1_payablePrices_57, one0, and_false, false_and, gk, gr, gi, gs, rv_some, ret_i, ret_n, Option.bind_some, List.cons_append, List.nil_append, z0, z1, zi, zj, i10, i01, true_or, or_true, eq_self, not_false_eq_true, not_true_eq_false, if_true, if_false, ite_not, Decidable.not_not, and_true, true_and, or_false, false_or, Nat.reduceLeDiff, Nat.reduceMod, Nat.reduceEqDiff, lb0 hB, lb1 hB, lb2 hB, lb3 hB, lb4 hB, lb5 hB, lb6 hB, rbg3 hR, rbg4 hR, rbg5 hR, rbg6 hR, rbg7 hR, rbg8 hR, rbg9 hR, rbg10 hR, rbg11 hR, hn, lt_f (Nat.le_refl nR) (by omega)]
theorem X1_standingFor_ev {M : pm_H} {v : Int32} (hv : vp_in v 6) : pm_ev tb xl xs mX1_standingFor 0 [some (.int v)] [] M = some (some (.int (if v = 3 then 3 else if v = 5 then 1 else if v = 4 then -2 else 0)), M) := by
  have out0 : ∀ v : Int32, (v.toInt < 3 ∨ 5 < v.toInt) → pm_ev tb xl xs mX1_standingFor 0 [some (.int v)] [] M = some (some (.int 0), M) := by
    intro v h
    simp only [eX1_standingFor_0, eX1_standingFor_1_c3, eX1_standingFor_1_c4, eX1_standingFor_1_c5, eX1_standingFor_1_d, eX1_standingFor_28, eX1_standingFor_29, eX1_standingFor_30, eX1_standingFor_31, eX1_standingFor_32, eX1_standingFor_34, eX1_standingFor_35, eX1_standingFor_36, eX1_standingFor_1_d h, one0, and_false, false_and, gk, gr, gi, gs, rv_some, ret_i, ret_n, Option.bind_some, List.cons_append, List.nil_append, z0, z1, zi, zj, i10, i01, true_or, or_true, eq_self, not_false_eq_true, not_true_eq_false, if_true, if_false, ite_not, Decidable.not_not, and_true, true_and, or_false, false_or, Nat.reduceLeDiff, Nat.reduceMod, Nat.reduceEqDiff]
  rcases st_cases hv with rfl | rfl | rfl | rfl | rfl | rfl
  · exact out0 0 (by decide)
  · exact out0 1 (by decide)
  · exact out0 2 (by decide)
  · simp only [eX1_standingFor_0, eX1_standingFor_1_c3, eX1_standingFor_1_c4, eX1_standingFor_1_c5, eX1_standingFor_1_d, eX1_standingFor_28, eX1_standingFor_29, eX1_standingFor_30, eX1_standingFor_31, eX1_standingFor_32, eX1_standingFor_34, eX1_standingFor_35, eX1_standingFor_36, one0, and_false, false_and, gk, gr, gi, gs, rv_some, ret_i, ret_n, Option.bind_some, List.cons_append, List.nil_append, z0, z1, zi, zj, i10, i01, true_or, or_true, eq_self, not_false_eq_true, not_true_eq_false, if_true, if_false, ite_not, Decidable.not_not, and_true, true_and, or_false, false_or, Nat.reduceLeDiff, Nat.reduceMod, Nat.reduceEqDiff]
  · simp only [eX1_standingFor_0, eX1_standingFor_1_c3, eX1_standingFor_1_c4, eX1_standingFor_1_c5, eX1_standingFor_1_d, eX1_standingFor_28, eX1_standingFor_29, eX1_standingFor_30, eX1_standingFor_31, eX1_standingFor_32, eX1_standingFor_34, eX1_standingFor_35, eX1_standingFor_36, one0, and_false, false_and, gk, gr, gi, gs, rv_some, ret_i, ret_n, Option.bind_some, List.cons_append, List.nil_append, z0, z1, zi, zj, i10, i01, true_or, or_true, eq_self, not_false_eq_true, not_true_eq_false, if_true, if_false, ite_not, Decidable.not_not, and_true, true_and, or_false, false_or, Nat.reduceLeDiff, Nat.reduceMod, Nat.reduceEqDiff]; rfl
  · simp only [eX1_standingFor_0, eX1_standingFor_1_c3, eX1_standingFor_1_c4, eX1_standingFor_1_c5, eX1_standingFor_1_d, eX1_standingFor_28, eX1_standingFor_29, eX1_standingFor_30, eX1_standingFor_31, eX1_standingFor_32, eX1_standingFor_34, eX1_standingFor_35, eX1_standingFor_36, one0, and_false, false_and, gk, gr, gi, gs, rv_some, ret_i, ret_n, Option.bind_some, List.cons_append, List.nil_append, z0, z1, zi, zj, i10, i01, true_or, or_true, eq_self, not_false_eq_true, not_true_eq_false, if_true, if_false, ite_not, Decidable.not_not, and_true, true_and, or_false, false_or, Nat.reduceLeDiff, Nat.reduceMod, Nat.reduceEqDiff]; rfl
theorem X1_standingOf_ev (hB : LB F o) (hR : RB I o s nA nH nR) (hT : Iv s nA nH nR) {h : Nat} (hhH : h < nH) : pm_ev tb xl xs mX1_standingOf 0 [some (.ref o), some (.int (nI h)), none, none, none] [] (pm_G F I) = some (some (.int (stnS s nR h)), pm_G F I) := by
  have h40 := hT.1.2.2.1.2
  have hn := hT.1.2.2.1.1
  have hh : h < 8 := by have := hT.1.2.1.2; omega
  simp only [eX1_standingOf_0, eX1_standingOf_1, eX1_standingOf_4, eX1_standingOf_5, eX1_standingOf_6, eX1_standingOf_7, eX1_standingOf_8, eX1_standingOf_9, eX1_standingOf_12, eX1_standingOf_13, eX1_standingOf_14, eX1_standingOf_17, eX1_standingOf_18, eX1_standingOf_19, eX1_standingOf_22, eX1_standingOf_23, eX1_standingOf_24, eX1_standingOf_25, eX1_standingOf_29, eX1_standingOf_30, eX1_standingOf_33, eX1_standingOf_36, eX1_standingOf_37, eX1_standingOf_40, eX1_standingOf_42, eX1_standingOf_43, eX1_standingOf_46, eX1_standingOf_47, eX1_standingOf_50, eX1_standingOf_51, eX1_standingOf_52, eX1_standingOf_55, eX1_standingOf_57, eX1_standingOf_58, eX1_standingOf_61, eX1_standingOf_64, eX1_standingOf_65, eX1_standingOf_66, eX1_standingOf_69, eX1_standingOf_72, eX1_standingOf_73, one0, and_false, false_and, gk, gr, gi, gs, rv_some, ret_i, ret_n, Option.bind_some, List.cons_append, List.nil_append, z0, z1, zi, zj, i10, i01, true_or, or_true, eq_self, not_false_eq_true, not_true_eq_false, if_true, if_false, ite_not, Decidable.not_not, and_true, true_and, or_false, false_or, Nat.reduceLeDiff, Nat.reduceMod, Nat.reduceEqDiff, lb0 hB, lb1 hB, lb2 hB, lb3 hB, lb4 hB, lb5 hB, lb6 hB, lbh hB hh, lbh2 hB hh, ix8 hh, cl8 hh, rbh0 hR hhH, rbh1 hR hhH, rbh2 hR hhH, rbh3 hR hhH]
  refine (lp_ev0 nR (fun i x => pm_ev tb xl xs mX1_standingOf 27 [some (.ref o), some (.int (nI h)), some (.ref (o + 9 + h)), some (.int x), some (.int (nI i))] [] (pm_G F I)) (fun r x => x + stR s h r) (fun i x hrR => ?_) (2 * hp s h 1 - hp s h 2 + hp s h 3)).trans ?_
  · have hr : i < 40 := by omega
    rw [eX1_standingOf_27]
    simp only [eX1_standingOf_0, eX1_standingOf_1, eX1_standingOf_4, eX1_standingOf_5, eX1_standingOf_6, eX1_standingOf_7, eX1_standingOf_8, eX1_standingOf_9, eX1_standingOf_12, eX1_standingOf_13, eX1_standingOf_14, eX1_standingOf_17, eX1_standingOf_18, eX1_standingOf_19, eX1_standingOf_22, eX1_standingOf_23, eX1_standingOf_24, eX1_standingOf_25, eX1_standingOf_29, eX1_standingOf_30, eX1_standingOf_33, eX1_standingOf_36, eX1_standingOf_37, eX1_standingOf_40, eX1_standingOf_42, eX1_standingOf_43, eX1_standingOf_46, eX1_standingOf_47, eX1_standingOf_50, eX1_standingOf_51, eX1_standingOf_52, eX1_standingOf_55, eX1_standingOf_57, eX1_standingOf_58, eX1_standingOf_61, eX1_standingOf_64, eX1_standingOf_65, eX1_standingOf_66, eX1_standingOf_69, eX1_standingOf_72, eX1_standingOf_73, one0, and_false, false_and, gk, gr, gi, gs, rv_some, ret_i, ret_n, Option.bind_some, List.cons_append, List.nil_append, z0, z1, zi, zj, i10, i01, true_or, or_true, eq_self, not_false_eq_true, not_true_eq_false, if_true, if_false, ite_not, Decidable.not_not, and_true, true_and, or_false, false_or, Nat.reduceLeDiff, Nat.reduceMod, Nat.reduceEqDiff, lb0 hB, lb1 hB, lb2 hB, lb3 hB, lb4 hB, lb5 hB, lb6 hB, lbr hB hr, lbr2 hB hr, ix40 hr, cl40 hr, rbg3 hR, rbg4 hR, rbg5 hR, rbg6 hR, rbg7 hR, rbg8 hR, rbg9 hR, rbg10 hR, rbg11 hR, rbr0 hR hrR, rbr1 hR hrR, rbr2 hR hrR, rbr3 hR hrR, rbr4 hR hrR, rbr5 hR hrR, rbr6 hR hrR, rbr7 hR hrR, rbr8 hR hrR, rbr9 hR hrR, rbr10 hR hrR, rbr11 hR hrR, X1_standingFor_ev (hT.2 i hrR).1.1, hn, lt_t hrR (by omega), nI_1, stR]
    by_cases h0 : rp s i 0 = nI h
    · rw [if_pos h0, if_pos h0]
    · rw [if_neg h0, if_neg h0, Int32.add_zero]
  · rw [eX1_standingOf_27]
    simp only [eX1_standingOf_0, eX1_standingOf_1, eX1_standingOf_4, eX1_standingOf_5, eX1_standingOf_6, eX1_standingOf_7, eX1_standingOf_8, eX1_standingOf_9, eX1_standingOf_12, eX1_standingOf_13, eX1_standingOf_14, eX1_standingOf_17, eX1_standingOf_18, eX1_standingOf_19, eX1_standingOf_22, eX1_standingOf_23, eX1_standingOf_24, eX1_standingOf_25, eX1_standingOf_29, eX1_standingOf_30, eX1_standingOf_33, eX1_standingOf_36, eX1_standingOf_37, eX1_standingOf_40, eX1_standingOf_42, eX1_standingOf_43, eX1_standingOf_46, eX1_standingOf_47, eX1_standingOf_50, eX1_standingOf_51, eX1_standingOf_52, eX1_standingOf_55, eX1_standingOf_57, eX1_standingOf_58, eX1_standingOf_61, eX1_standingOf_64, eX1_standingOf_65, eX1_standingOf_66, eX1_standingOf_69, eX1_standingOf_72, eX1_standingOf_73, one0, and_false, false_and, gk, gr, gi, gs, rv_some, ret_i, ret_n, Option.bind_some, List.cons_append, List.nil_append, z0, z1, zi, zj, i10, i01, true_or, or_true, eq_self, not_false_eq_true, not_true_eq_false, if_true, if_false, ite_not, Decidable.not_not, and_true, true_and, or_false, false_or, Nat.reduceLeDiff, Nat.reduceMod, Nat.reduceEqDiff, lb0 hB, lb1 hB, lb2 hB, lb3 hB, lb4 hB, lb5 hB, lb6 hB, rbg3 hR, rbg4 hR, rbg5 hR, rbg6 hR, rbg7 hR, rbg8 hR, rbg9 hR, rbg10 hR, rbg11 hR, hn, lt_f (Nat.le_refl nR) (by omega)]
    rfl
theorem lt4_iff {x : Int32} (h : vp_in x 6) : x < 4 ↔ (¬ x = 4 ∧ ¬ x = 5) := by
  rcases st_cases h with rfl | rfl | rfl | rfl | rfl | rfl <;> decide
theorem X1_foldTarget_ev (hB : LB F o) (hR : RB I o s nA nH nR) (hT : Iv s nA nH nR) {r : Nat} (hrR : r < nR) : pm_ev tb xl xs mX1_foldTarget 0 [some (.ref o), some (.int (nI r)), none, none, none, none] [] (pm_G F I) = some (some (.int (origS s r)), pm_G F I) := by
  have h40 := hT.1.2.2.1.2
  have hr : r < 40 := by omega
  have key : ∀ k i l4 l5, i + k = r → pm_ev tb xl xs mX1_foldTarget 20 [some (.ref o), some (.int (nI r)), some (.ref (o + 18 + r)), some (.int (nI i)), l4, l5] [] (pm_G F I) = some (some (.int (ff (fun o => decide (rp s o 1 = rp s r 1 ∧ rp s o 2 = rp s r 2 ∧ rp s o 3 < 4)) i k)), pm_G F I) := by
    intro k
    induction k with
    | zero =>
      intro i l4 l5 hi
      obtain rfl : i = r := by omega
      rw [eX1_foldTarget_20]
      simp only [eX1_foldTarget_0, eX1_foldTarget_1, eX1_foldTarget_4, eX1_foldTarget_5, eX1_foldTarget_6, eX1_foldTarget_7, eX1_foldTarget_8, eX1_foldTarget_11, eX1_foldTarget_14, eX1_foldTarget_17, eX1_foldTarget_18, eX1_foldTarget_19, eX1_foldTarget_21, eX1_foldTarget_22, eX1_foldTarget_25, eX1_foldTarget_26, eX1_foldTarget_29, eX1_foldTarget_30, eX1_foldTarget_31, eX1_foldTarget_33, eX1_foldTarget_35, eX1_foldTarget_38, eX1_foldTarget_39, eX1_foldTarget_42, eX1_foldTarget_44, eX1_foldTarget_47, eX1_foldTarget_48, eX1_foldTarget_51, eX1_foldTarget_52, eX1_foldTarget_55, eX1_foldTarget_56, eX1_foldTarget_58, eX1_foldTarget_60, eX1_foldTarget_63, eX1_foldTarget_65, eX1_foldTarget_66, eX1_foldTarget_69, eX1_foldTarget_72, eX1_foldTarget_73, eX1_foldTarget_74, eX1_foldTarget_77, eX1_foldTarget_80, eX1_foldTarget_83, one0, and_false, false_and, gk, gr, gi, gs, rv_some, ret_i, ret_n, Option.bind_some, List.cons_append, List.nil_append, z0, z1, zi, zj, i10, i01, true_or, or_true, eq_self, not_false_eq_true, not_true_eq_false, if_true, if_false, ite_not, Decidable.not_not, and_true, true_and, or_false, false_or, Nat.reduceLeDiff, Nat.reduceMod, Nat.reduceEqDiff, lt_f (Nat.le_refl i) (by omega), ff]
    | succ k ih =>
      intro i l4 l5 hi
      have hi2 : i < nR := by omega
      have hi3 : i < 40 := by omega
      have e4 := lt4_iff (hT.2 i hi2).1.1
      rw [eX1_foldTarget_20]
      simp only [eX1_foldTarget_0, eX1_foldTarget_1, eX1_foldTarget_4, eX1_foldTarget_5, eX1_foldTarget_6, eX1_foldTarget_7, eX1_foldTarget_8, eX1_foldTarget_11, eX1_foldTarget_14, eX1_foldTarget_17, eX1_foldTarget_18, eX1_foldTarget_19, eX1_foldTarget_21, eX1_foldTarget_22, eX1_foldTarget_25, eX1_foldTarget_26, eX1_foldTarget_29, eX1_foldTarget_30, eX1_foldTarget_31, eX1_foldTarget_33, eX1_foldTarget_35, eX1_foldTarget_38, eX1_foldTarget_39, eX1_foldTarget_42, eX1_foldTarget_44, eX1_foldTarget_47, eX1_foldTarget_48, eX1_foldTarget_51, eX1_foldTarget_52, eX1_foldTarget_55, eX1_foldTarget_56, eX1_foldTarget_58, eX1_foldTarget_60, eX1_foldTarget_63, eX1_foldTarget_65, eX1_foldTarget_66, eX1_foldTarget_69, eX1_foldTarget_72, eX1_foldTarget_73, eX1_foldTarget_74, eX1_foldTarget_77, eX1_foldTarget_80, eX1_foldTarget_83, one0, and_false, false_and, gk, gr, gi, gs, rv_some, ret_i, ret_n, Option.bind_some, List.cons_append, List.nil_append, z0, z1, zi, zj, i10, i01, true_or, or_true, eq_self, not_false_eq_true, not_true_eq_false, if_true, if_false, ite_not, Decidable.not_not, and_true, true_and, or_false, false_or, Nat.reduceLeDiff, Nat.reduceMod, Nat.reduceEqDiff, lb0 hB, lb1 hB, lb2 hB, lb3 hB, lb4 hB, lb5 hB, lb6 hB, lbr hB hr, lbr2 hB hr, ix40 hr, cl40 hr, rbr0 hR hrR, rbr1 hR hrR, rbr2 hR hrR, rbr3 hR hrR, rbr4 hR hrR, rbr5 hR hrR, rbr6 hR hrR, rbr7 hR hrR, rbr8 hR hrR, rbr9 hR hrR, rbr10 hR hrR, rbr11 hR hrR, lbr hB hi3, lbr2 hB hi3, ix40 hi3, cl40 hi3, rbr1 hR hi2, rbr2 hR hi2, rbr3 hR hi2, X3_tellsSameAs_ev hB hi3 hr, lt_t (show i < r by omega) (by omega), nI_1, ih (i + 1) _ _ (by omega), ff, decide_eq_true_eq, e4, one0]
      by_cases h4 : rp s i 3 = 4
      · rw [if_pos h4, if_neg (fun q => q.2.2.1 h4)]
      · rw [if_neg h4]
        by_cases h5 : rp s i 3 = 5
        · rw [if_pos h5, if_neg (fun q => q.2.2.2 h5)]
        · rw [if_neg h5]
          by_cases h6 : rp s i 1 = rp s r 1 ∧ rp s i 2 = rp s r 2
          · rw [if_pos h6, if_pos ⟨h6.1, h6.2, h4, h5⟩]
          · rw [if_neg h6, if_neg (fun q => h6 ⟨q.1, q.2.1⟩)]
  simp only [eX1_foldTarget_0, eX1_foldTarget_1, eX1_foldTarget_4, eX1_foldTarget_5, eX1_foldTarget_6, eX1_foldTarget_7, eX1_foldTarget_8, eX1_foldTarget_11, eX1_foldTarget_14, eX1_foldTarget_17, eX1_foldTarget_18, eX1_foldTarget_19, eX1_foldTarget_21, eX1_foldTarget_22, eX1_foldTarget_25, eX1_foldTarget_26, eX1_foldTarget_29, eX1_foldTarget_30, eX1_foldTarget_31, eX1_foldTarget_33, eX1_foldTarget_35, eX1_foldTarget_38, eX1_foldTarget_39, eX1_foldTarget_42, eX1_foldTarget_44, eX1_foldTarget_47, eX1_foldTarget_48, eX1_foldTarget_51, eX1_foldTarget_52, eX1_foldTarget_55, eX1_foldTarget_56, eX1_foldTarget_58, eX1_foldTarget_60, eX1_foldTarget_63, eX1_foldTarget_65, eX1_foldTarget_66, eX1_foldTarget_69, eX1_foldTarget_72, eX1_foldTarget_73, eX1_foldTarget_74, eX1_foldTarget_77, eX1_foldTarget_80, eX1_foldTarget_83, one0, and_false, false_and, gk, gr, gi, gs, rv_some, ret_i, ret_n, Option.bind_some, List.cons_append, List.nil_append, z0, z1, zi, zj, i10, i01, true_or, or_true, eq_self, not_false_eq_true, not_true_eq_false, if_true, if_false, ite_not, Decidable.not_not, and_true, true_and, or_false, false_or, Nat.reduceLeDiff, Nat.reduceMod, Nat.reduceEqDiff, lb0 hB, lb1 hB, lb2 hB, lb3 hB, lb4 hB, lb5 hB, lb6 hB, lbr hB hr, lbr2 hB hr, ix40 hr, cl40 hr, rbr0 hR hrR, rbr1 hR hrR, rbr2 hR hrR, rbr3 hR hrR, rbr4 hR hrR, rbr5 hR hrR, rbr6 hR hrR, rbr7 hR hrR, rbr8 hR hrR, rbr9 hR hrR, rbr10 hR hrR, rbr11 hR hrR]
  unfold origS
  by_cases h0 : rp s r 3 = 0
  · rw [if_pos h0, if_pos h0]
    exact key r 0 _ _ (by omega)
  · rw [if_neg h0, if_neg h0]
theorem X1_isReportedBy_ev (hB : LB F o) (hR : RB I o s nA nH nR) (hT : Iv s nA nH nR) {h r : Nat} (hrR : r < nR) : ∃ v : Int32, zb v ∧ (v = 0 ↔ ¬ hasR s nR h r) ∧ pm_ev tb xl xs mX1_isReportedBy 0 [some (.ref o), some (.int (nI h)), some (.int (nI r)), none] [] (pm_G F I) = some (some (.int v), pm_G F I) := by
  have h40 := hT.1.2.2.1.2
  have hn := hT.1.2.2.1.1
  have hr : r < 40 := by omega
  have key : ∀ k i, i + k = nR → ∃ w : Int32, zb w ∧ (w = 0 ↔ ¬ ∃ q, i ≤ q ∧ q < nR ∧ under s r q ∧ rp s q 0 = nI h) ∧ pm_ev tb xl xs mX1_isReportedBy 17 [some (.ref o), some (.int (nI h)), some (.int (nI r)), some (.int (nI i))] [] (pm_G F I) = some (some (.int w), pm_G F I) := by
    intro k
    induction k with
    | zero =>
      intro i hi
      obtain rfl : i = nR := by omega
      refine ⟨0, z0, ⟨fun _ ⟨a, h1, h2, _⟩ => by omega, fun _ => rfl⟩, ?_⟩
      rw [eX1_isReportedBy_17]
      simp only [eX1_isReportedBy_0, eX1_isReportedBy_1, eX1_isReportedBy_4, eX1_isReportedBy_5, eX1_isReportedBy_6, eX1_isReportedBy_9, eX1_isReportedBy_10, eX1_isReportedBy_13, eX1_isReportedBy_14, eX1_isReportedBy_15, eX1_isReportedBy_16, eX1_isReportedBy_18, eX1_isReportedBy_19, eX1_isReportedBy_22, eX1_isReportedBy_25, eX1_isReportedBy_26, eX1_isReportedBy_29, eX1_isReportedBy_30, eX1_isReportedBy_31, eX1_isReportedBy_34, eX1_isReportedBy_35, eX1_isReportedBy_38, eX1_isReportedBy_39, eX1_isReportedBy_42, eX1_isReportedBy_43, eX1_isReportedBy_44, eX1_isReportedBy_47, eX1_isReportedBy_48, eX1_isReportedBy_51, eX1_isReportedBy_52, eX1_isReportedBy_53, eX1_isReportedBy_56, eX1_isReportedBy_59, eX1_isReportedBy_60, one0, and_false, false_and, gk, gr, gi, gs, rv_some, ret_i, ret_n, Option.bind_some, List.cons_append, List.nil_append, z0, z1, zi, zj, i10, i01, true_or, or_true, eq_self, not_false_eq_true, not_true_eq_false, if_true, if_false, ite_not, Decidable.not_not, and_true, true_and, or_false, false_or, Nat.reduceLeDiff, Nat.reduceMod, Nat.reduceEqDiff, lb0 hB, lb1 hB, lb2 hB, lb3 hB, lb4 hB, lb5 hB, lb6 hB, rbg3 hR, rbg4 hR, rbg5 hR, rbg6 hR, rbg7 hR, rbg8 hR, rbg9 hR, rbg10 hR, rbg11 hR, hn, lt_f (Nat.le_refl i) (by omega)]
    | succ k ih =>
      intro i hi
      have hi2 : i < nR := by omega
      have hi3 : i < 40 := by omega
      rw [eX1_isReportedBy_17]
      simp only [eX1_isReportedBy_0, eX1_isReportedBy_1, eX1_isReportedBy_4, eX1_isReportedBy_5, eX1_isReportedBy_6, eX1_isReportedBy_9, eX1_isReportedBy_10, eX1_isReportedBy_13, eX1_isReportedBy_14, eX1_isReportedBy_15, eX1_isReportedBy_16, eX1_isReportedBy_18, eX1_isReportedBy_19, eX1_isReportedBy_22, eX1_isReportedBy_25, eX1_isReportedBy_26, eX1_isReportedBy_29, eX1_isReportedBy_30, eX1_isReportedBy_31, eX1_isReportedBy_34, eX1_isReportedBy_35, eX1_isReportedBy_38, eX1_isReportedBy_39, eX1_isReportedBy_42, eX1_isReportedBy_43, eX1_isReportedBy_44, eX1_isReportedBy_47, eX1_isReportedBy_48, eX1_isReportedBy_51, eX1_isReportedBy_52, eX1_isReportedBy_53, eX1_isReportedBy_56, eX1_isReportedBy_59, eX1_isReportedBy_60, one0, and_false, false_and, gk, gr, gi, gs, rv_some, ret_i, ret_n, Option.bind_some, List.cons_append, List.nil_append, z0, z1, zi, zj, i10, i01, true_or, or_true, eq_self, not_false_eq_true, not_true_eq_false, if_true, if_false, ite_not, Decidable.not_not, and_true, true_and, or_false, false_or, Nat.reduceLeDiff, Nat.reduceMod, Nat.reduceEqDiff, lb0 hB, lb1 hB, lb2 hB, lb3 hB, lb4 hB, lb5 hB, lb6 hB, rbg3 hR, rbg4 hR, rbg5 hR, rbg6 hR, rbg7 hR, rbg8 hR, rbg9 hR, rbg10 hR, rbg11 hR, lbr hB hi3, lbr2 hB hi3, ix40 hi3, cl40 hi3, rbr0 hR hi2, rbr5 hR hi2, hn, into_iff (hT.2 i hi2).2.2.1 (show r < 1000 by omega), lt_t hi2 (by omega), nI_1]
      by_cases hc : under s r i ∧ rp s i 0 = nI h
      · refine ⟨1, z1, ?_, ?_⟩
        · constructor
          · intro q; exact absurd q (by decide)
          · intro q; exact absurd ⟨i, Nat.le_refl i, hi2, hc⟩ q
        · rw [if_pos hc.1, if_pos hc.2]
      · obtain ⟨w, h1, h2, h3⟩ := ih (i + 1) (by omega)
        refine ⟨w, h1, ?_, ?_⟩
        · rw [h2]
          refine ⟨fun q ⟨a, g1, g2, g3⟩ => ?_, fun q ⟨a, g1, g2, g3⟩ => q ⟨a, by omega, g2, g3⟩⟩
          rcases Nat.lt_or_ge i a with g | g
          · exact q ⟨a, g, g2, g3⟩
          · obtain rfl : a = i := by omega
            exact hc g3
        · by_cases g1 : under s r i
          · rw [if_pos g1, if_neg (fun q => hc ⟨g1, q⟩)]
            exact h3
          · rw [if_neg g1]
            exact h3
  simp only [eX1_isReportedBy_0, eX1_isReportedBy_1, eX1_isReportedBy_4, eX1_isReportedBy_5, eX1_isReportedBy_6, eX1_isReportedBy_9, eX1_isReportedBy_10, eX1_isReportedBy_13, eX1_isReportedBy_14, eX1_isReportedBy_15, eX1_isReportedBy_16, eX1_isReportedBy_18, eX1_isReportedBy_19, eX1_isReportedBy_22, eX1_isReportedBy_25, eX1_isReportedBy_26, eX1_isReportedBy_29, eX1_isReportedBy_30, eX1_isReportedBy_31, eX1_isReportedBy_34, eX1_isReportedBy_35, eX1_isReportedBy_38, eX1_isReportedBy_39, eX1_isReportedBy_42, eX1_isReportedBy_43, eX1_isReportedBy_44, eX1_isReportedBy_47, eX1_isReportedBy_48, eX1_isReportedBy_51, eX1_isReportedBy_52, eX1_isReportedBy_53, eX1_isReportedBy_56, eX1_isReportedBy_59, eX1_isReportedBy_60, one0, and_false, false_and, gk, gr, gi, gs, rv_some, ret_i, ret_n, Option.bind_some, List.cons_append, List.nil_append, z0, z1, zi, zj, i10, i01, true_or, or_true, eq_self, not_false_eq_true, not_true_eq_false, if_true, if_false, ite_not, Decidable.not_not, and_true, true_and, or_false, false_or, Nat.reduceLeDiff, Nat.reduceMod, Nat.reduceEqDiff, lb0 hB, lb1 hB, lb2 hB, lb3 hB, lb4 hB, lb5 hB, lb6 hB, lbr hB hr, lbr2 hB hr, ix40 hr, cl40 hr, rbr0 hR hrR, rbr1 hR hrR, rbr2 hR hrR, rbr3 hR hrR, rbr4 hR hrR, rbr5 hR hrR, rbr6 hR hrR, rbr7 hR hrR, rbr8 hR hrR, rbr9 hR hrR, rbr10 hR hrR, rbr11 hR hrR]
  by_cases h0 : rp s r 0 = nI h
  · refine ⟨1, z1, ?_, by rw [if_pos h0]⟩
    constructor
    · intro q; exact absurd q (by decide)
    · intro q; exact absurd (Or.inl h0) q
  · obtain ⟨w, h1, h2, h3⟩ := key nR 0 (by omega)
    refine ⟨w, h1, ?_, by rw [if_neg h0]; exact h3⟩
    rw [h2]
    refine ⟨fun q g => ?_, fun q ⟨a, g1, g2, g3⟩ => q (Or.inr ⟨a, g2, g3⟩)⟩
    rcases g with g | ⟨a, g⟩
    · exact h0 g
    · exact q ⟨a, Nat.zero_le a, g⟩
end CLS1

