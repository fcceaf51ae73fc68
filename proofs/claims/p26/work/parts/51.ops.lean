/-! what is done to reports -/
section OPS
variable {xl : Nat} {xs : Nat → Int32} {F : pm_F} {I : Nat → Nat → Int32} {N : Nat} {s s' : St} {nA nH nR nA' nH' nR' n m : Nat} {H : Nat → St} {v : Int32}
def o_report (s : St) (nA nH nR : Nat) (a b : Nat) (f : Int32) : Int32 × Option (St × Nat × Nat × Nat) := if f < 0 ∨ 99 < f then (-10001, none) else if nR < 40 then (nI nR, some (opnR s nR (nI a) (nI b) f, nA, nH, nR + 1)) else (-10003, none)
theorem op_report (hcl : Cl F I s nA nH nR n m H) (hFI : FI N s nA nH nR) (hN : N < 400) {a b : Nat} (haH : a < nH) (hbA : b < nA) (f : Int32) : Ans F N I s n H (fun M => pm_ev tb xl xs mX4_report 0 [some (.ref 0), some (.int (nI a)), some (.int (nI b)), some (.int f)] [] M) (o_report s nA nH nR a b f) := by
  have hD := hcl.1
  have hR := hcl.2.1
  have hF4 := hcl.2.2.1
  have hC := hcl.2.2.2
  have hB := ldB hD
  have h6 := hFI.1.1.1.2
  have h8 := hFI.1.1.2.1.2
  have h40 := hFI.1.1.2.2.1.2
  have hnA := hFI.1.1.1.1
  have hnH := hFI.1.1.2.1.1
  have hnR := hFI.1.1.2.2.1.1
  have qA : I 1 3 = nI nA := (rbg3 hR).trans hnA
  have qH : I 1 4 = nI nH := (rbg4 hR).trans hnH
  have qR : I 1 5 = nI nR := (rbg5 hR).trans hnR
  have hrb := hFI.rb
  have ho : ¬ out (nI a) nH := in_n haH (by omega)
  have hq : ¬ out (nI b) nA := in_n hbA (by omega)
  unfold o_report
  by_cases h1 : f < 0 ∨ 99 < f
  · rw [if_pos h1]
    show _ = _
    simp only [eX4_report_0, eX4_report_1, eX4_report_4, eX4_report_5, eX4_report_8, eX4_report_11, eX4_report_12, eX4_report_15, eX4_report_16, eX4_report_19, eX4_report_22, eX4_report_23, eX4_report_24, eX4_report_26, eX4_report_29, eX4_report_32, eX4_report_35, eX4_report_36, eX4_report_37, eX4_report_40, eX4_report_43, eX4_report_45, eX4_report_48, eX4_report_51, eX4_report_52, eX4_report_53, eX4_report_56, eX4_report_57, eX4_report_60, eX4_report_61, eX4_report_62, eX4_report_63, eX4_report_66, one0, and_false, false_and, gk, gr, gi, gs, rv_some, ret_i, ret_n, Option.bind_some, List.cons_append, List.nil_append, z0, z1, zi, zj, i10, i01, true_or, or_true, eq_self, not_false_eq_true, not_true_eq_false, if_true, if_false, ite_not, Decidable.not_not, and_true, true_and, or_false, false_or, Nat.reduceLeDiff, Nat.reduceMod, Nat.reduceEqDiff, ld0 hD, ld1 hD, ld2 hD, ld3 hD, ld4 hD, ld5 hD, ld6 hD, lb0 (ldB hD), lb1 (ldB hD), lb2 (ldB hD), lb3 (ldB hD), lb4 (ldB hD), lb5 (ldB hD), lb6 (ldB hD), X1_hasHunter_ev hB qH (by omega), X1_hasAsset_ev hB qA (by omega), ho, hq, X4_isOutside_ev, h1]
  · rw [if_neg h1]
    have c1 : (nI nR < 40) = (nR < 40) := lt_iff (n := 40) (by omega) (by omega)
    by_cases h3 : nR < 40
    · rw [if_pos h3]
      refine deed hcl hN ((hFI.mono (Nat.le_succ N)).opR h3 haH hbA) ?_
      obtain ⟨J, m', e, ⟨hRJ, hCJ⟩, hk⟩ := X4_remember_ev (xl := xl) (xs := xs) hD hR hF4 hC
      obtain ⟨K, e2, hRK, hFK⟩ := X1_openReport_ev (xl := xl) (xs := xs) hB hRJ hFI.1 h3 (h := nI a) (a := nI b) (f := f)
      obtain ⟨g1, g2⟩ := behind (K := K) hCJ hk hFK
      refine ⟨K, m', ?_, ⟨hRK, g1⟩, g2⟩
      simp only [eX4_report_0, eX4_report_1, eX4_report_4, eX4_report_5, eX4_report_8, eX4_report_11, eX4_report_12, eX4_report_15, eX4_report_16, eX4_report_19, eX4_report_22, eX4_report_23, eX4_report_24, eX4_report_26, eX4_report_29, eX4_report_32, eX4_report_35, eX4_report_36, eX4_report_37, eX4_report_40, eX4_report_43, eX4_report_45, eX4_report_48, eX4_report_51, eX4_report_52, eX4_report_53, eX4_report_56, eX4_report_57, eX4_report_60, eX4_report_61, eX4_report_62, eX4_report_63, eX4_report_66, one0, and_false, false_and, gk, gr, gi, gs, rv_some, ret_i, ret_n, Option.bind_some, List.cons_append, List.nil_append, z0, z1, zi, zj, i10, i01, true_or, or_true, eq_self, not_false_eq_true, not_true_eq_false, if_true, if_false, ite_not, Decidable.not_not, and_true, true_and, or_false, false_or, Nat.reduceLeDiff, Nat.reduceMod, Nat.reduceEqDiff, ld0 hD, ld1 hD, ld2 hD, ld3 hD, ld4 hD, ld5 hD, ld6 hD, lb0 (ldB hD), lb1 (ldB hD), lb2 (ldB hD), lb3 (ldB hD), lb4 (ldB hD), lb5 (ldB hD), lb6 (ldB hD), qR, X1_hasHunter_ev hB qH (by omega), X1_hasAsset_ev hB qA (by omega), ho, hq, X4_isOutside_ev, h1, c1, h3, e, e2]
    · rw [if_neg h3]
      show _ = _
      simp only [eX4_report_0, eX4_report_1, eX4_report_4, eX4_report_5, eX4_report_8, eX4_report_11, eX4_report_12, eX4_report_15, eX4_report_16, eX4_report_19, eX4_report_22, eX4_report_23, eX4_report_24, eX4_report_26, eX4_report_29, eX4_report_32, eX4_report_35, eX4_report_36, eX4_report_37, eX4_report_40, eX4_report_43, eX4_report_45, eX4_report_48, eX4_report_51, eX4_report_52, eX4_report_53, eX4_report_56, eX4_report_57, eX4_report_60, eX4_report_61, eX4_report_62, eX4_report_63, eX4_report_66, one0, and_false, false_and, gk, gr, gi, gs, rv_some, ret_i, ret_n, Option.bind_some, List.cons_append, List.nil_append, z0, z1, zi, zj, i10, i01, true_or, or_true, eq_self, not_false_eq_true, not_true_eq_false, if_true, if_false, ite_not, Decidable.not_not, and_true, true_and, or_false, false_or, Nat.reduceLeDiff, Nat.reduceMod, Nat.reduceEqDiff, ld0 hD, ld1 hD, ld2 hD, ld3 hD, ld4 hD, ld5 hD, ld6 hD, lb0 (ldB hD), lb1 (ldB hD), lb2 (ldB hD), lb3 (ldB hD), lb4 (ldB hD), lb5 (ldB hD), lb6 (ldB hD), qR, X1_hasHunter_ev hB qH (by omega), X1_hasAsset_ev hB qA (by omega), ho, hq, X4_isOutside_ev, h1, c1, h3]
theorem op_report_h (hcl : Cl F I s nA nH nR n m H) (hFI : FI N s nA nH nR) {v w f : Int32} (ho : out v nH) : pm_ev tb xl xs mX4_report 0 [some (.ref 0), some (.int v), some (.int w), some (.int f)] [] (pm_G F I) = some (some (.int (-10001)), pm_G F I) := by
  have hD := hcl.1
  have hR := hcl.2.1
  have hF4 := hcl.2.2.1
  have hC := hcl.2.2.2
  have hB := ldB hD
  have h6 := hFI.1.1.1.2
  have h8 := hFI.1.1.2.1.2
  have h40 := hFI.1.1.2.2.1.2
  have hnA := hFI.1.1.1.1
  have hnH := hFI.1.1.2.1.1
  have hnR := hFI.1.1.2.2.1.1
  have qA : I 1 3 = nI nA := (rbg3 hR).trans hnA
  have qH : I 1 4 = nI nH := (rbg4 hR).trans hnH
  have qR : I 1 5 = nI nR := (rbg5 hR).trans hnR
  have hrb := hFI.rb
  simp only [eX4_report_0, eX4_report_1, eX4_report_4, eX4_report_5, eX4_report_8, eX4_report_11, eX4_report_12, eX4_report_15, eX4_report_16, eX4_report_19, eX4_report_22, eX4_report_23, eX4_report_24, eX4_report_26, eX4_report_29, eX4_report_32, eX4_report_35, eX4_report_36, eX4_report_37, eX4_report_40, eX4_report_43, eX4_report_45, eX4_report_48, eX4_report_51, eX4_report_52, eX4_report_53, eX4_report_56, eX4_report_57, eX4_report_60, eX4_report_61, eX4_report_62, eX4_report_63, eX4_report_66, one0, and_false, false_and, gk, gr, gi, gs, rv_some, ret_i, ret_n, Option.bind_some, List.cons_append, List.nil_append, z0, z1, zi, zj, i10, i01, true_or, or_true, eq_self, not_false_eq_true, not_true_eq_false, if_true, if_false, ite_not, Decidable.not_not, and_true, true_and, or_false, false_or, Nat.reduceLeDiff, Nat.reduceMod, Nat.reduceEqDiff, ld0 hD, ld1 hD, ld2 hD, ld3 hD, ld4 hD, ld5 hD, ld6 hD, lb0 (ldB hD), lb1 (ldB hD), lb2 (ldB hD), lb3 (ldB hD), lb4 (ldB hD), lb5 (ldB hD), lb6 (ldB hD), X1_hasHunter_ev hB qH (by omega), ho]
theorem op_report_a (hcl : Cl F I s nA nH nR n m H) (hFI : FI N s nA nH nR) {v w f : Int32} (hq : out w nA) : pm_ev tb xl xs mX4_report 0 [some (.ref 0), some (.int v), some (.int w), some (.int f)] [] (pm_G F I) = some (some (.int (-10001)), pm_G F I) := by
  have hD := hcl.1
  have hR := hcl.2.1
  have hF4 := hcl.2.2.1
  have hC := hcl.2.2.2
  have hB := ldB hD
  have h6 := hFI.1.1.1.2
  have h8 := hFI.1.1.2.1.2
  have h40 := hFI.1.1.2.2.1.2
  have hnA := hFI.1.1.1.1
  have hnH := hFI.1.1.2.1.1
  have hnR := hFI.1.1.2.2.1.1
  have qA : I 1 3 = nI nA := (rbg3 hR).trans hnA
  have qH : I 1 4 = nI nH := (rbg4 hR).trans hnH
  have qR : I 1 5 = nI nR := (rbg5 hR).trans hnR
  have hrb := hFI.rb
  by_cases ho : out v nH
  · simp only [eX4_report_0, eX4_report_1, eX4_report_4, eX4_report_5, eX4_report_8, eX4_report_11, eX4_report_12, eX4_report_15, eX4_report_16, eX4_report_19, eX4_report_22, eX4_report_23, eX4_report_24, eX4_report_26, eX4_report_29, eX4_report_32, eX4_report_35, eX4_report_36, eX4_report_37, eX4_report_40, eX4_report_43, eX4_report_45, eX4_report_48, eX4_report_51, eX4_report_52, eX4_report_53, eX4_report_56, eX4_report_57, eX4_report_60, eX4_report_61, eX4_report_62, eX4_report_63, eX4_report_66, one0, and_false, false_and, gk, gr, gi, gs, rv_some, ret_i, ret_n, Option.bind_some, List.cons_append, List.nil_append, z0, z1, zi, zj, i10, i01, true_or, or_true, eq_self, not_false_eq_true, not_true_eq_false, if_true, if_false, ite_not, Decidable.not_not, and_true, true_and, or_false, false_or, Nat.reduceLeDiff, Nat.reduceMod, Nat.reduceEqDiff, ld0 hD, ld1 hD, ld2 hD, ld3 hD, ld4 hD, ld5 hD, ld6 hD, lb0 (ldB hD), lb1 (ldB hD), lb2 (ldB hD), lb3 (ldB hD), lb4 (ldB hD), lb5 (ldB hD), lb6 (ldB hD), X1_hasHunter_ev hB qH (by omega), ho]
  · simp only [eX4_report_0, eX4_report_1, eX4_report_4, eX4_report_5, eX4_report_8, eX4_report_11, eX4_report_12, eX4_report_15, eX4_report_16, eX4_report_19, eX4_report_22, eX4_report_23, eX4_report_24, eX4_report_26, eX4_report_29, eX4_report_32, eX4_report_35, eX4_report_36, eX4_report_37, eX4_report_40, eX4_report_43, eX4_report_45, eX4_report_48, eX4_report_51, eX4_report_52, eX4_report_53, eX4_report_56, eX4_report_57, eX4_report_60, eX4_report_61, eX4_report_62, eX4_report_63, eX4_report_66, one0, and_false, false_and, gk, gr, gi, gs, rv_some, ret_i, ret_n, Option.bind_some, List.cons_append, List.nil_append, z0, z1, zi, zj, i10, i01, true_or, or_true, eq_self, not_false_eq_true, not_true_eq_false, if_true, if_false, ite_not, Decidable.not_not, and_true, true_and, or_false, false_or, Nat.reduceLeDiff, Nat.reduceMod, Nat.reduceEqDiff, ld0 hD, ld1 hD, ld2 hD, ld3 hD, ld4 hD, ld5 hD, ld6 hD, lb0 (ldB hD), lb1 (ldB hD), lb2 (ldB hD), lb3 (ldB hD), lb4 (ldB hD), lb5 (ldB hD), lb6 (ldB hD), X1_hasHunter_ev hB qH (by omega), X1_hasAsset_ev hB qA (by omega), ho, hq]
theorem op_report_f (hcl : Cl F I s nA nH nR n m H) (hFI : FI N s nA nH nR) {v w f : Int32} (h1 : f < 0 ∨ 99 < f) : pm_ev tb xl xs mX4_report 0 [some (.ref 0), some (.int v), some (.int w), some (.int f)] [] (pm_G F I) = some (some (.int (-10001)), pm_G F I) := by
  have hD := hcl.1
  have hR := hcl.2.1
  have hF4 := hcl.2.2.1
  have hC := hcl.2.2.2
  have hB := ldB hD
  have h6 := hFI.1.1.1.2
  have h8 := hFI.1.1.2.1.2
  have h40 := hFI.1.1.2.2.1.2
  have hnA := hFI.1.1.1.1
  have hnH := hFI.1.1.2.1.1
  have hnR := hFI.1.1.2.2.1.1
  have qA : I 1 3 = nI nA := (rbg3 hR).trans hnA
  have qH : I 1 4 = nI nH := (rbg4 hR).trans hnH
  have qR : I 1 5 = nI nR := (rbg5 hR).trans hnR
  have hrb := hFI.rb
  by_cases ho : out v nH
  · simp only [eX4_report_0, eX4_report_1, eX4_report_4, eX4_report_5, eX4_report_8, eX4_report_11, eX4_report_12, eX4_report_15, eX4_report_16, eX4_report_19, eX4_report_22, eX4_report_23, eX4_report_24, eX4_report_26, eX4_report_29, eX4_report_32, eX4_report_35, eX4_report_36, eX4_report_37, eX4_report_40, eX4_report_43, eX4_report_45, eX4_report_48, eX4_report_51, eX4_report_52, eX4_report_53, eX4_report_56, eX4_report_57, eX4_report_60, eX4_report_61, eX4_report_62, eX4_report_63, eX4_report_66, one0, and_false, false_and, gk, gr, gi, gs, rv_some, ret_i, ret_n, Option.bind_some, List.cons_append, List.nil_append, z0, z1, zi, zj, i10, i01, true_or, or_true, eq_self, not_false_eq_true, not_true_eq_false, if_true, if_false, ite_not, Decidable.not_not, and_true, true_and, or_false, false_or, Nat.reduceLeDiff, Nat.reduceMod, Nat.reduceEqDiff, ld0 hD, ld1 hD, ld2 hD, ld3 hD, ld4 hD, ld5 hD, ld6 hD, lb0 (ldB hD), lb1 (ldB hD), lb2 (ldB hD), lb3 (ldB hD), lb4 (ldB hD), lb5 (ldB hD), lb6 (ldB hD), X1_hasHunter_ev hB qH (by omega), ho]
  · by_cases hq : out w nA
    · simp only [eX4_report_0, eX4_report_1, eX4_report_4, eX4_report_5, eX4_report_8, eX4_report_11, eX4_report_12, eX4_report_15, eX4_report_16, eX4_report_19, eX4_report_22, eX4_report_23, eX4_report_24, eX4_report_26, eX4_report_29, eX4_report_32, eX4_report_35, eX4_report_36, eX4_report_37, eX4_report_40, eX4_report_43, eX4_report_45, eX4_report_48, eX4_report_51, eX4_report_52, eX4_report_53, eX4_report_56, eX4_report_57, eX4_report_60, eX4_report_61, eX4_report_62, eX4_report_63, eX4_report_66, one0, and_false, false_and, gk, gr, gi, gs, rv_some, ret_i, ret_n, Option.bind_some, List.cons_append, List.nil_append, z0, z1, zi, zj, i10, i01, true_or, or_true, eq_self, not_false_eq_true, not_true_eq_false, if_true, if_false, ite_not, Decidable.not_not, and_true, true_and, or_false, false_or, Nat.reduceLeDiff, Nat.reduceMod, Nat.reduceEqDiff, ld0 hD, ld1 hD, ld2 hD, ld3 hD, ld4 hD, ld5 hD, ld6 hD, lb0 (ldB hD), lb1 (ldB hD), lb2 (ldB hD), lb3 (ldB hD), lb4 (ldB hD), lb5 (ldB hD), lb6 (ldB hD), X1_hasHunter_ev hB qH (by omega), X1_hasAsset_ev hB qA (by omega), ho, hq]
    · simp only [eX4_report_0, eX4_report_1, eX4_report_4, eX4_report_5, eX4_report_8, eX4_report_11, eX4_report_12, eX4_report_15, eX4_report_16, eX4_report_19, eX4_report_22, eX4_report_23, eX4_report_24, eX4_report_26, eX4_report_29, eX4_report_32, eX4_report_35, eX4_report_36, eX4_report_37, eX4_report_40, eX4_report_43, eX4_report_45, eX4_report_48, eX4_report_51, eX4_report_52, eX4_report_53, eX4_report_56, eX4_report_57, eX4_report_60, eX4_report_61, eX4_report_62, eX4_report_63, eX4_report_66, one0, and_false, false_and, gk, gr, gi, gs, rv_some, ret_i, ret_n, Option.bind_some, List.cons_append, List.nil_append, z0, z1, zi, zj, i10, i01, true_or, or_true, eq_self, not_false_eq_true, not_true_eq_false, if_true, if_false, ite_not, Decidable.not_not, and_true, true_and, or_false, false_or, Nat.reduceLeDiff, Nat.reduceMod, Nat.reduceEqDiff, ld0 hD, ld1 hD, ld2 hD, ld3 hD, ld4 hD, ld5 hD, ld6 hD, lb0 (ldB hD), lb1 (ldB hD), lb2 (ldB hD), lb3 (ldB hD), lb4 (ldB hD), lb5 (ldB hD), lb6 (ldB hD), X1_hasHunter_ev hB qH (by omega), X1_hasAsset_ev hB qA (by omega), ho, hq, X4_isOutside_ev, h1]
def o_fold (s : St) (nA nH nR : Nat) (r : Nat) : Int32 × Option (St × Nat × Nat × Nat) := if origS s r = -10009 then (-10002, none) else (origS s r, some (sR (sR s r 3 5) r 5 (origS s r), nA, nH, nR))
theorem op_fold (hcl : Cl F I s nA nH nR n m H) (hFI : FI N s nA nH nR) (hN : N < 400) {r : Nat} (hrR : r < nR) : Ans F N I s n H (fun M => pm_ev tb xl xs mX4_fold 0 [some (.ref 0), some (.int (nI r)), none, none] [] M) (o_fold s nA nH nR r) := by
  have hD := hcl.1
  have hR := hcl.2.1
  have hF4 := hcl.2.2.1
  have hC := hcl.2.2.2
  have hB := ldB hD
  have h6 := hFI.1.1.1.2
  have h8 := hFI.1.1.2.1.2
  have h40 := hFI.1.1.2.2.1.2
  have hnA := hFI.1.1.1.1
  have hnH := hFI.1.1.2.1.1
  have hnR := hFI.1.1.2.2.1.1
  have qA : I 1 3 = nI nA := (rbg3 hR).trans hnA
  have qH : I 1 4 = nI nH := (rbg4 hR).trans hnH
  have qR : I 1 5 = nI nR := (rbg5 hR).trans hnR
  have hrb := hFI.rb
  have ho : ¬ out (nI r) nR := in_n hrR (by omega)
  have hr : r < 40 := by omega
  unfold o_fold
  by_cases h1 : origS s r = -10009
  · rw [if_pos h1]
    show _ = _
    simp only [eX4_fold_0, eX4_fold_1, eX4_fold_4, eX4_fold_5, eX4_fold_8, eX4_fold_11, eX4_fold_14, eX4_fold_15, eX4_fold_16, eX4_fold_19, eX4_fold_20, eX4_fold_23, eX4_fold_24, eX4_fold_25, eX4_fold_28, eX4_fold_31, eX4_fold_34, eX4_fold_35, eX4_fold_36, eX4_fold_39, eX4_fold_40, eX4_fold_43, eX4_fold_46, eX4_fold_47, eX4_fold_48, eX4_fold_49, eX4_fold_50, eX4_fold_51, eX4_fold_54, eX4_fold_55, eX4_fold_56, eX4_fold_59, eX4_fold_60, one0, and_false, false_and, gk, gr, gi, gs, rv_some, ret_i, ret_n, Option.bind_some, List.cons_append, List.nil_append, z0, z1, zi, zj, i10, i01, true_or, or_true, eq_self, not_false_eq_true, not_true_eq_false, if_true, if_false, ite_not, Decidable.not_not, and_true, true_and, or_false, false_or, Nat.reduceLeDiff, Nat.reduceMod, Nat.reduceEqDiff, ld0 hD, ld1 hD, ld2 hD, ld3 hD, ld4 hD, ld5 hD, ld6 hD, lb0 (ldB hD), lb1 (ldB hD), lb2 (ldB hD), lb3 (ldB hD), lb4 (ldB hD), lb5 (ldB hD), lb6 (ldB hD), X1_hasReport_ev hB qR (by omega), ho, X1_foldTarget_ev hB hR hFI.1 hrR, h1]
  · rw [if_neg h1]
    refine deed hcl hN ?_ ?_
    · have hz : rp s r 3 = 0 := by
        by_cases q : rp s r 3 = 0
        · exact q
        · exact absurd (if_neg q) h1
      obtain ⟨-, -, -, h4, -⟩ := hFI.1.2 r hrR
      have f1 := (hFI.mono (Nat.le_succ N)).wR (v := 5) (j := 3) hr (by decide) (by decide) (by decide) (fun _ => (hFI.1.2 r hrR).w3 v6_5 (fun q => absurd rfl q) (fun _ => h4 (Or.inl hz)) (fun q => by rcases q with q | q | q <;> exact absurd q (by decide)))
      exact f1.wR hr (by decide) (by decide) (by decide) (fun q => (f1.1.2 r q).w5 (by rw [rp_sR (by decide) (by decide), if_pos ⟨rfl, rfl⟩]))
    · obtain ⟨J, m', e, ⟨hRJ, hCJ⟩, hk⟩ := X4_remember_ev (xl := xl) (xs := xs) hD hR hF4 hC
      have hk1 : 1 ≤ 1 + 18 + r ∧ 1 + 18 + r < 1 + 58 := by omega
      obtain ⟨g1, g2⟩ := behind (K := pm_u2 (pm_u2 J (1 + 18 + r) 3 5) (1 + 18 + r) 5 (origS s r)) hCJ hk ((Fr.rf.u2 hk1).u2 hk1)
      refine ⟨_, m', ?_, ⟨(hRJ.wr3 h6 h8 h40 hr).wr5 h6 h8 h40 hr, g1⟩, g2⟩
      simp only [eX4_fold_0, eX4_fold_1, eX4_fold_4, eX4_fold_5, eX4_fold_8, eX4_fold_11, eX4_fold_14, eX4_fold_15, eX4_fold_16, eX4_fold_19, eX4_fold_20, eX4_fold_23, eX4_fold_24, eX4_fold_25, eX4_fold_28, eX4_fold_31, eX4_fold_34, eX4_fold_35, eX4_fold_36, eX4_fold_39, eX4_fold_40, eX4_fold_43, eX4_fold_46, eX4_fold_47, eX4_fold_48, eX4_fold_49, eX4_fold_50, eX4_fold_51, eX4_fold_54, eX4_fold_55, eX4_fold_56, eX4_fold_59, eX4_fold_60, one0, and_false, false_and, gk, gr, gi, gs, rv_some, ret_i, ret_n, Option.bind_some, List.cons_append, List.nil_append, z0, z1, zi, zj, i10, i01, true_or, or_true, eq_self, not_false_eq_true, not_true_eq_false, if_true, if_false, ite_not, Decidable.not_not, and_true, true_and, or_false, false_or, Nat.reduceLeDiff, Nat.reduceMod, Nat.reduceEqDiff, ld0 hD, ld1 hD, ld2 hD, ld3 hD, ld4 hD, ld5 hD, ld6 hD, lb0 (ldB hD), lb1 (ldB hD), lb2 (ldB hD), lb3 (ldB hD), lb4 (ldB hD), lb5 (ldB hD), lb6 (ldB hD), lbr hB hr, lbr2 hB hr, ix40 hr, cl40 hr, X1_hasReport_ev hB qR (by omega), ho, X1_foldTarget_ev hB hR hFI.1 hrR, h1, e]
theorem op_fold_out (hcl : Cl F I s nA nH nR n m H) (hFI : FI N s nA nH nR) {v : Int32} (ho : out v nR) : pm_ev tb xl xs mX4_fold 0 [some (.ref 0), some (.int v), none, none] [] (pm_G F I) = some (some (.int (-10001)), pm_G F I) := by
  have hD := hcl.1
  have hR := hcl.2.1
  have hF4 := hcl.2.2.1
  have hC := hcl.2.2.2
  have hB := ldB hD
  have h6 := hFI.1.1.1.2
  have h8 := hFI.1.1.2.1.2
  have h40 := hFI.1.1.2.2.1.2
  have hnA := hFI.1.1.1.1
  have hnH := hFI.1.1.2.1.1
  have hnR := hFI.1.1.2.2.1.1
  have qA : I 1 3 = nI nA := (rbg3 hR).trans hnA
  have qH : I 1 4 = nI nH := (rbg4 hR).trans hnH
  have qR : I 1 5 = nI nR := (rbg5 hR).trans hnR
  have hrb := hFI.rb
  simp only [eX4_fold_0, eX4_fold_1, eX4_fold_4, eX4_fold_5, eX4_fold_8, eX4_fold_11, eX4_fold_14, eX4_fold_15, eX4_fold_16, eX4_fold_19, eX4_fold_20, eX4_fold_23, eX4_fold_24, eX4_fold_25, eX4_fold_28, eX4_fold_31, eX4_fold_34, eX4_fold_35, eX4_fold_36, eX4_fold_39, eX4_fold_40, eX4_fold_43, eX4_fold_46, eX4_fold_47, eX4_fold_48, eX4_fold_49, eX4_fold_50, eX4_fold_51, eX4_fold_54, eX4_fold_55, eX4_fold_56, eX4_fold_59, eX4_fold_60, one0, and_false, false_and, gk, gr, gi, gs, rv_some, ret_i, ret_n, Option.bind_some, List.cons_append, List.nil_append, z0, z1, zi, zj, i10, i01, true_or, or_true, eq_self, not_false_eq_true, not_true_eq_false, if_true, if_false, ite_not, Decidable.not_not, and_true, true_and, or_false, false_or, Nat.reduceLeDiff, Nat.reduceMod, Nat.reduceEqDiff, ld0 hD, ld1 hD, ld2 hD, ld3 hD, ld4 hD, ld5 hD, ld6 hD, lb0 (ldB hD), lb1 (ldB hD), lb2 (ldB hD), lb3 (ldB hD), lb4 (ldB hD), lb5 (ldB hD), lb6 (ldB hD), X1_hasReport_ev hB qR (by omega), ho]
def o_grade (s : St) (nA nH nR : Nat) (r : Nat) (w : Int32) : Int32 × Option (St × Nat × Nat × Nat) := if w < 1 ∨ 4 < w then (-10001, none) else if rp s r 3 = 0 then (price (sR (sR s r 3 1) r 4 w) r, some (sR (sR s r 3 1) r 4 w, nA, nH, nR)) else (-10002, none)
theorem op_grade (hcl : Cl F I s nA nH nR n m H) (hFI : FI N s nA nH nR) (hN : N < 400) {r : Nat} (hrR : r < nR) (w : Int32) : Ans F N I s n H (fun M => pm_ev tb xl xs mX4_grade 0 [some (.ref 0), some (.int (nI r)), some (.int w), none] [] M) (o_grade s nA nH nR r w) := by
  have hD := hcl.1
  have hR := hcl.2.1
  have hF4 := hcl.2.2.1
  have hC := hcl.2.2.2
  have hB := ldB hD
  have h6 := hFI.1.1.1.2
  have h8 := hFI.1.1.2.1.2
  have h40 := hFI.1.1.2.2.1.2
  have hnA := hFI.1.1.1.1
  have hnH := hFI.1.1.2.1.1
  have hnR := hFI.1.1.2.2.1.1
  have qA : I 1 3 = nI nA := (rbg3 hR).trans hnA
  have qH : I 1 4 = nI nH := (rbg4 hR).trans hnH
  have qR : I 1 5 = nI nR := (rbg5 hR).trans hnR
  have hrb := hFI.rb
  have ho : ¬ out (nI r) nR := in_n hrR (by omega)
  have hr : r < 40 := by omega
  unfold o_grade
  by_cases h1 : w < 1 ∨ 4 < w
  · rw [if_pos h1]
    show _ = _
    simp only [eX4_grade_0, eX4_grade_1, eX4_grade_4, eX4_grade_5, eX4_grade_8, eX4_grade_11, eX4_grade_12, eX4_grade_13, eX4_grade_14, eX4_grade_17, eX4_grade_20, eX4_grade_23, eX4_grade_24, eX4_grade_25, eX4_grade_28, eX4_grade_31, eX4_grade_32, eX4_grade_33, eX4_grade_34, eX4_grade_35, eX4_grade_38, eX4_grade_41, eX4_grade_44, eX4_grade_45, eX4_grade_46, eX4_grade_49, eX4_grade_50, eX4_grade_51, eX4_grade_54, eX4_grade_55, eX4_grade_56, eX4_grade_59, eX4_grade_60, eX4_grade_63, eX4_grade_64, eX4_grade_67, one0, and_false, false_and, gk, gr, gi, gs, rv_some, ret_i, ret_n, Option.bind_some, List.cons_append, List.nil_append, z0, z1, zi, zj, i10, i01, true_or, or_true, eq_self, not_false_eq_true, not_true_eq_false, if_true, if_false, ite_not, Decidable.not_not, and_true, true_and, or_false, false_or, Nat.reduceLeDiff, Nat.reduceMod, Nat.reduceEqDiff, ld0 hD, ld1 hD, ld2 hD, ld3 hD, ld4 hD, ld5 hD, ld6 hD, lb0 (ldB hD), lb1 (ldB hD), lb2 (ldB hD), lb3 (ldB hD), lb4 (ldB hD), lb5 (ldB hD), lb6 (ldB hD), X1_hasReport_ev hB qR (by omega), ho, X4_isOutside_ev, h1]
  · rw [if_neg h1]
    by_cases h2 : rp s r 3 = 0
    · rw [if_pos h2]
      obtain ⟨x, rfl, hx1, hx2⟩ := rng_of (a := 1) (b := 4) (by omega) (by omega) h1
      obtain ⟨a, haA, hra, -⟩ := vin (hFI.1.1.2.2.2 r hrR).2 (by omega)
      have hFI' : FI (N + 1) (sR (sR s r 3 1) r 4 (nI x)) nA nH nR := by
        obtain ⟨-, -, h5, h4, -⟩ := hFI.1.2 r hrR
        have x0 : ¬ nI x = 0 := fun q => by
          have q2 := (eq_iff (i := x) (n := 0) (by omega) (by omega)).mp q
          omega
        refine ⟨⟨(hFI.1.1.sR hr (by decide) (by decide) (by decide)).sR hr (by decide) (by decide) (by decide), fun q hq => ?_⟩, ?_⟩
        · by_cases e : q = r
          · subst e
            obtain ⟨a1, b1, c1, d1, e1⟩ := hFI.1.2 q hq
            unfold Rw
            simp only [rp_sR (show 3 < 12 by decide) (show 3 < 12 by decide), rp_sR (show 3 < 12 by decide) (show 4 < 12 by decide), rp_sR (show 3 < 12 by decide) (show 6 < 12 by decide), rp_sR (show 3 < 12 by decide) (show 7 < 12 by decide), rp_sR (show 3 < 12 by decide) (show 9 < 12 by decide), rp_sR (show 3 < 12 by decide) (show 10 < 12 by decide), rp_sR (show 3 < 12 by decide) (show 11 < 12 by decide), rp_sR (show 4 < 12 by decide) (show 3 < 12 by decide), rp_sR (show 4 < 12 by decide) (show 4 < 12 by decide), rp_sR (show 4 < 12 by decide) (show 6 < 12 by decide), rp_sR (show 4 < 12 by decide) (show 7 < 12 by decide), rp_sR (show 4 < 12 by decide) (show 9 < 12 by decide), rp_sR (show 4 < 12 by decide) (show 10 < 12 by decide), rp_sR (show 4 < 12 by decide) (show 11 < 12 by decide), rp_sR (show 5 < 12 by decide) (show 3 < 12 by decide), rp_sR (show 5 < 12 by decide) (show 4 < 12 by decide), rp_sR (show 5 < 12 by decide) (show 6 < 12 by decide), rp_sR (show 5 < 12 by decide) (show 7 < 12 by decide), rp_sR (show 5 < 12 by decide) (show 9 < 12 by decide), rp_sR (show 5 < 12 by decide) (show 10 < 12 by decide), rp_sR (show 5 < 12 by decide) (show 11 < 12 by decide), rp_sR (show 6 < 12 by decide) (show 3 < 12 by decide), rp_sR (show 6 < 12 by decide) (show 4 < 12 by decide), rp_sR (show 6 < 12 by decide) (show 6 < 12 by decide), rp_sR (show 6 < 12 by decide) (show 7 < 12 by decide), rp_sR (show 6 < 12 by decide) (show 9 < 12 by decide), rp_sR (show 6 < 12 by decide) (show 10 < 12 by decide), rp_sR (show 6 < 12 by decide) (show 11 < 12 by decide), rp_sR (show 7 < 12 by decide) (show 3 < 12 by decide), rp_sR (show 7 < 12 by decide) (show 4 < 12 by decide), rp_sR (show 7 < 12 by decide) (show 6 < 12 by decide), rp_sR (show 7 < 12 by decide) (show 7 < 12 by decide), rp_sR (show 7 < 12 by decide) (show 9 < 12 by decide), rp_sR (show 7 < 12 by decide) (show 10 < 12 by decide), rp_sR (show 7 < 12 by decide) (show 11 < 12 by decide), rp_sR (show 9 < 12 by decide) (show 3 < 12 by decide), rp_sR (show 9 < 12 by decide) (show 4 < 12 by decide), rp_sR (show 9 < 12 by decide) (show 6 < 12 by decide), rp_sR (show 9 < 12 by decide) (show 7 < 12 by decide), rp_sR (show 9 < 12 by decide) (show 9 < 12 by decide), rp_sR (show 9 < 12 by decide) (show 10 < 12 by decide), rp_sR (show 9 < 12 by decide) (show 11 < 12 by decide), rp_sR (show 10 < 12 by decide) (show 3 < 12 by decide), rp_sR (show 10 < 12 by decide) (show 4 < 12 by decide), rp_sR (show 10 < 12 by decide) (show 6 < 12 by decide), rp_sR (show 10 < 12 by decide) (show 7 < 12 by decide), rp_sR (show 10 < 12 by decide) (show 9 < 12 by decide), rp_sR (show 10 < 12 by decide) (show 10 < 12 by decide), rp_sR (show 10 < 12 by decide) (show 11 < 12 by decide), rp_sR (show 11 < 12 by decide) (show 3 < 12 by decide), rp_sR (show 11 < 12 by decide) (show 4 < 12 by decide), rp_sR (show 11 < 12 by decide) (show 6 < 12 by decide), rp_sR (show 11 < 12 by decide) (show 7 < 12 by decide), rp_sR (show 11 < 12 by decide) (show 9 < 12 by decide), rp_sR (show 11 < 12 by decide) (show 10 < 12 by decide), rp_sR (show 11 < 12 by decide) (show 11 < 12 by decide), true_and, if_true, Nat.reduceEqDiff, if_false, rp_sR (show 4 < 12 by decide) (show 4 < 12 by decide), rp_sR (show 5 < 12 by decide) (show 4 < 12 by decide), rp_sR (show 5 < 12 by decide) (show 3 < 12 by decide)]
            exact ⟨⟨v6_1, in_n (by omega) (by omega), a1.2.2⟩, b1, fun _ => c1 (by rw [h2]; decide), fun q => by rcases q with q | q <;> exact absurd q (by decide), fun _ => x0⟩
          · exact (hFI.1.2 q hq).to (fun j hj => by rw [rp_sR hj (by decide), if_neg (fun x => e x.1), rp_sR hj (by decide), if_neg (fun x => e x.1)])
        · have f1 := (hFI.mono (Nat.le_succ N)).2
          rw [gp_sR (by decide), gp_sR (by decide)]
          exact (f1.wR h6 h8).wR h6 h8
      refine deed hcl hN hFI' ?_
      obtain ⟨J, m', e, ⟨hRJ, hCJ⟩, hk⟩ := X4_remember_ev (xl := xl) (xs := xs) hD hR hF4 hC
      have hk1 : 1 ≤ 1 + 18 + r ∧ 1 + 18 + r < 1 + 58 := by omega
      obtain ⟨g1, g2⟩ := behind (K := pm_u2 (pm_u2 J (1 + 18 + r) 3 1) (1 + 18 + r) 4 (nI x)) hCJ hk ((Fr.rf.u2 hk1).u2 hk1)
      have hRK := (hRJ.wr3 (v := 1) h6 h8 h40 hr).wr4 (v := nI x) h6 h8 h40 hr
      refine ⟨_, m', ?_, ⟨hRK, g1⟩, g2⟩
      simp only [eX4_grade_0, eX4_grade_1, eX4_grade_4, eX4_grade_5, eX4_grade_8, eX4_grade_11, eX4_grade_12, eX4_grade_13, eX4_grade_14, eX4_grade_17, eX4_grade_20, eX4_grade_23, eX4_grade_24, eX4_grade_25, eX4_grade_28, eX4_grade_31, eX4_grade_32, eX4_grade_33, eX4_grade_34, eX4_grade_35, eX4_grade_38, eX4_grade_41, eX4_grade_44, eX4_grade_45, eX4_grade_46, eX4_grade_49, eX4_grade_50, eX4_grade_51, eX4_grade_54, eX4_grade_55, eX4_grade_56, eX4_grade_59, eX4_grade_60, eX4_grade_63, eX4_grade_64, eX4_grade_67, one0, and_false, false_and, gk, gr, gi, gs, rv_some, ret_i, ret_n, Option.bind_some, List.cons_append, List.nil_append, z0, z1, zi, zj, i10, i01, true_or, or_true, eq_self, not_false_eq_true, not_true_eq_false, if_true, if_false, ite_not, Decidable.not_not, and_true, true_and, or_false, false_or, Nat.reduceLeDiff, Nat.reduceMod, Nat.reduceEqDiff, ld0 hD, ld1 hD, ld2 hD, ld3 hD, ld4 hD, ld5 hD, ld6 hD, lb0 (ldB hD), lb1 (ldB hD), lb2 (ldB hD), lb3 (ldB hD), lb4 (ldB hD), lb5 (ldB hD), lb6 (ldB hD), lbr hB hr, lbr2 hB hr, ix40 hr, cl40 hr, rbr3 hR hrR, X1_hasReport_ev hB qR (by omega), ho, X4_isOutside_ev, h1, h2, e, X1_priceOf_ev hB hRK hFI'.1.1 hrR]
    · rw [if_neg h2]
      show _ = _
      simp only [eX4_grade_0, eX4_grade_1, eX4_grade_4, eX4_grade_5, eX4_grade_8, eX4_grade_11, eX4_grade_12, eX4_grade_13, eX4_grade_14, eX4_grade_17, eX4_grade_20, eX4_grade_23, eX4_grade_24, eX4_grade_25, eX4_grade_28, eX4_grade_31, eX4_grade_32, eX4_grade_33, eX4_grade_34, eX4_grade_35, eX4_grade_38, eX4_grade_41, eX4_grade_44, eX4_grade_45, eX4_grade_46, eX4_grade_49, eX4_grade_50, eX4_grade_51, eX4_grade_54, eX4_grade_55, eX4_grade_56, eX4_grade_59, eX4_grade_60, eX4_grade_63, eX4_grade_64, eX4_grade_67, one0, and_false, false_and, gk, gr, gi, gs, rv_some, ret_i, ret_n, Option.bind_some, List.cons_append, List.nil_append, z0, z1, zi, zj, i10, i01, true_or, or_true, eq_self, not_false_eq_true, not_true_eq_false, if_true, if_false, ite_not, Decidable.not_not, and_true, true_and, or_false, false_or, Nat.reduceLeDiff, Nat.reduceMod, Nat.reduceEqDiff, ld0 hD, ld1 hD, ld2 hD, ld3 hD, ld4 hD, ld5 hD, ld6 hD, lb0 (ldB hD), lb1 (ldB hD), lb2 (ldB hD), lb3 (ldB hD), lb4 (ldB hD), lb5 (ldB hD), lb6 (ldB hD), lbr hB hr, lbr2 hB hr, ix40 hr, cl40 hr, rbr3 hR hrR, X1_hasReport_ev hB qR (by omega), ho, X4_isOutside_ev, h1, h2]
theorem op_grade_out (hcl : Cl F I s nA nH nR n m H) (hFI : FI N s nA nH nR) {v w : Int32} (h : out v nR ∨ w < 1 ∨ 4 < w) : pm_ev tb xl xs mX4_grade 0 [some (.ref 0), some (.int v), some (.int w), none] [] (pm_G F I) = some (some (.int (-10001)), pm_G F I) := by
  have hD := hcl.1
  have hR := hcl.2.1
  have hF4 := hcl.2.2.1
  have hC := hcl.2.2.2
  have hB := ldB hD
  have h6 := hFI.1.1.1.2
  have h8 := hFI.1.1.2.1.2
  have h40 := hFI.1.1.2.2.1.2
  have hnA := hFI.1.1.1.1
  have hnH := hFI.1.1.2.1.1
  have hnR := hFI.1.1.2.2.1.1
  have qA : I 1 3 = nI nA := (rbg3 hR).trans hnA
  have qH : I 1 4 = nI nH := (rbg4 hR).trans hnH
  have qR : I 1 5 = nI nR := (rbg5 hR).trans hnR
  have hrb := hFI.rb
  by_cases ho : out v nR
  · simp only [eX4_grade_0, eX4_grade_1, eX4_grade_4, eX4_grade_5, eX4_grade_8, eX4_grade_11, eX4_grade_12, eX4_grade_13, eX4_grade_14, eX4_grade_17, eX4_grade_20, eX4_grade_23, eX4_grade_24, eX4_grade_25, eX4_grade_28, eX4_grade_31, eX4_grade_32, eX4_grade_33, eX4_grade_34, eX4_grade_35, eX4_grade_38, eX4_grade_41, eX4_grade_44, eX4_grade_45, eX4_grade_46, eX4_grade_49, eX4_grade_50, eX4_grade_51, eX4_grade_54, eX4_grade_55, eX4_grade_56, eX4_grade_59, eX4_grade_60, eX4_grade_63, eX4_grade_64, eX4_grade_67, one0, and_false, false_and, gk, gr, gi, gs, rv_some, ret_i, ret_n, Option.bind_some, List.cons_append, List.nil_append, z0, z1, zi, zj, i10, i01, true_or, or_true, eq_self, not_false_eq_true, not_true_eq_false, if_true, if_false, ite_not, Decidable.not_not, and_true, true_and, or_false, false_or, Nat.reduceLeDiff, Nat.reduceMod, Nat.reduceEqDiff, ld0 hD, ld1 hD, ld2 hD, ld3 hD, ld4 hD, ld5 hD, ld6 hD, lb0 (ldB hD), lb1 (ldB hD), lb2 (ldB hD), lb3 (ldB hD), lb4 (ldB hD), lb5 (ldB hD), lb6 (ldB hD), X1_hasReport_ev hB qR (by omega), ho]
  · have h1 := h.resolve_left ho
    simp only [eX4_grade_0, eX4_grade_1, eX4_grade_4, eX4_grade_5, eX4_grade_8, eX4_grade_11, eX4_grade_12, eX4_grade_13, eX4_grade_14, eX4_grade_17, eX4_grade_20, eX4_grade_23, eX4_grade_24, eX4_grade_25, eX4_grade_28, eX4_grade_31, eX4_grade_32, eX4_grade_33, eX4_grade_34, eX4_grade_35, eX4_grade_38, eX4_grade_41, eX4_grade_44, eX4_grade_45, eX4_grade_46, eX4_grade_49, eX4_grade_50, eX4_grade_51, eX4_grade_54, eX4_grade_55, eX4_grade_56, eX4_grade_59, eX4_grade_60, eX4_grade_63, eX4_grade_64, eX4_grade_67, one0, and_false, false_and, gk, gr, gi, gs, rv_some, ret_i, ret_n, Option.bind_some, List.cons_append, List.nil_append, z0, z1, zi, zj, i10, i01, true_or, or_true, eq_self, not_false_eq_true, not_true_eq_false, if_true, if_false, ite_not, Decidable.not_not, and_true, true_and, or_false, false_or, Nat.reduceLeDiff, Nat.reduceMod, Nat.reduceEqDiff, ld0 hD, ld1 hD, ld2 hD, ld3 hD, ld4 hD, ld5 hD, ld6 hD, lb0 (ldB hD), lb1 (ldB hD), lb2 (ldB hD), lb3 (ldB hD), lb4 (ldB hD), lb5 (ldB hD), lb6 (ldB hD), X1_hasReport_ev hB qR (by omega), ho, X4_isOutside_ev, h1]
def o_refuse (s : St) (nA nH nR : Nat) (r : Nat) : Int32 × Option (St × Nat × Nat × Nat) := if rp s r 3 = 0 ∨ rp s r 3 = 1 ∨ rp s r 3 = 2 then (if rp s r 6 = 1 then (-10002, none) else ((unfS (sR s r 3 4) nR r).2, some ((unfS (sR s r 3 4) nR r).1, nA, nH, nR))) else (-10002, none)
theorem op_refuse (hcl : Cl F I s nA nH nR n m H) (hFI : FI N s nA nH nR) (hN : N < 400) {r : Nat} (hrR : r < nR) : Ans F N I s n H (fun M => pm_ev tb xl xs mX4_refuse 0 [some (.ref 0), some (.int (nI r)), none] [] M) (o_refuse s nA nH nR r) := by
  have hD := hcl.1
  have hR := hcl.2.1
  have hF4 := hcl.2.2.1
  have hC := hcl.2.2.2
  have hB := ldB hD
  have h6 := hFI.1.1.1.2
  have h8 := hFI.1.1.2.1.2
  have h40 := hFI.1.1.2.2.1.2
  have hnA := hFI.1.1.1.1
  have hnH := hFI.1.1.2.1.1
  have hnR := hFI.1.1.2.2.1.1
  have qA : I 1 3 = nI nA := (rbg3 hR).trans hnA
  have qH : I 1 4 = nI nH := (rbg4 hR).trans hnH
  have qR : I 1 5 = nI nR := (rbg5 hR).trans hnR
  have hrb := hFI.rb
  have ho : ¬ out (nI r) nR := in_n hrR (by omega)
  have hr : r < 40 := by omega
  obtain ⟨⟨q3, -, -, -⟩, -, h5, -, -⟩ := hFI.1.2 r hrR
  unfold o_refuse
  by_cases h1 : rp s r 3 = 0 ∨ rp s r 3 = 1 ∨ rp s r 3 = 2
  · rw [if_pos h1]
    by_cases h2 : rp s r 6 = 1
    · rw [if_pos h2]
      show _ = _
      rcases h1 with h1 | h1 | h1
      · simp only [eX4_refuse_0, eX4_refuse_1, eX4_refuse_4, eX4_refuse_5, eX4_refuse_8, eX4_refuse_11, eX4_refuse_14, eX4_refuse_15, eX4_refuse_16, eX4_refuse_19, eX4_refuse_22, eX4_refuse_23, eX4_refuse_24, eX4_refuse_25, eX4_refuse_26, eX4_refuse_29, eX4_refuse_32, eX4_refuse_33, eX4_refuse_36, eX4_refuse_39, eX4_refuse_42, eX4_refuse_43, eX4_refuse_44, eX4_refuse_47, eX4_refuse_48, eX4_refuse_51, eX4_refuse_54, eX4_refuse_55, eX4_refuse_56, eX4_refuse_59, eX4_refuse_60, eX4_refuse_61, eX4_refuse_64, eX4_refuse_65, eX4_refuse_68, eX4_refuse_69, eX4_refuse_72, one0, and_false, false_and, gk, gr, gi, gs, rv_some, ret_i, ret_n, Option.bind_some, List.cons_append, List.nil_append, z0, z1, zi, zj, i10, i01, true_or, or_true, eq_self, not_false_eq_true, not_true_eq_false, if_true, if_false, ite_not, Decidable.not_not, and_true, true_and, or_false, false_or, Nat.reduceLeDiff, Nat.reduceMod, Nat.reduceEqDiff, ld0 hD, ld1 hD, ld2 hD, ld3 hD, ld4 hD, ld5 hD, ld6 hD, lb0 (ldB hD), lb1 (ldB hD), lb2 (ldB hD), lb3 (ldB hD), lb4 (ldB hD), lb5 (ldB hD), lb6 (ldB hD), lbr hB hr, lbr2 hB hr, ix40 hr, cl40 hr, rbr3 hR hrR, rbr6 hR hrR, X3_isPayable_ev hB hr, X1_hasReport_ev hB qR (by omega), ho, h1, h2]
      · simp only [eX4_refuse_0, eX4_refuse_1, eX4_refuse_4, eX4_refuse_5, eX4_refuse_8, eX4_refuse_11, eX4_refuse_14, eX4_refuse_15, eX4_refuse_16, eX4_refuse_19, eX4_refuse_22, eX4_refuse_23, eX4_refuse_24, eX4_refuse_25, eX4_refuse_26, eX4_refuse_29, eX4_refuse_32, eX4_refuse_33, eX4_refuse_36, eX4_refuse_39, eX4_refuse_42, eX4_refuse_43, eX4_refuse_44, eX4_refuse_47, eX4_refuse_48, eX4_refuse_51, eX4_refuse_54, eX4_refuse_55, eX4_refuse_56, eX4_refuse_59, eX4_refuse_60, eX4_refuse_61, eX4_refuse_64, eX4_refuse_65, eX4_refuse_68, eX4_refuse_69, eX4_refuse_72, one0, and_false, false_and, gk, gr, gi, gs, rv_some, ret_i, ret_n, Option.bind_some, List.cons_append, List.nil_append, z0, z1, zi, zj, i10, i01, true_or, or_true, eq_self, not_false_eq_true, not_true_eq_false, if_true, if_false, ite_not, Decidable.not_not, and_true, true_and, or_false, false_or, Nat.reduceLeDiff, Nat.reduceMod, Nat.reduceEqDiff, ld0 hD, ld1 hD, ld2 hD, ld3 hD, ld4 hD, ld5 hD, ld6 hD, lb0 (ldB hD), lb1 (ldB hD), lb2 (ldB hD), lb3 (ldB hD), lb4 (ldB hD), lb5 (ldB hD), lb6 (ldB hD), lbr hB hr, lbr2 hB hr, ix40 hr, cl40 hr, rbr3 hR hrR, rbr6 hR hrR, X3_isPayable_ev hB hr, X1_hasReport_ev hB qR (by omega), ho, h1, h2]
      · simp only [eX4_refuse_0, eX4_refuse_1, eX4_refuse_4, eX4_refuse_5, eX4_refuse_8, eX4_refuse_11, eX4_refuse_14, eX4_refuse_15, eX4_refuse_16, eX4_refuse_19, eX4_refuse_22, eX4_refuse_23, eX4_refuse_24, eX4_refuse_25, eX4_refuse_26, eX4_refuse_29, eX4_refuse_32, eX4_refuse_33, eX4_refuse_36, eX4_refuse_39, eX4_refuse_42, eX4_refuse_43, eX4_refuse_44, eX4_refuse_47, eX4_refuse_48, eX4_refuse_51, eX4_refuse_54, eX4_refuse_55, eX4_refuse_56, eX4_refuse_59, eX4_refuse_60, eX4_refuse_61, eX4_refuse_64, eX4_refuse_65, eX4_refuse_68, eX4_refuse_69, eX4_refuse_72, one0, and_false, false_and, gk, gr, gi, gs, rv_some, ret_i, ret_n, Option.bind_some, List.cons_append, List.nil_append, z0, z1, zi, zj, i10, i01, true_or, or_true, eq_self, not_false_eq_true, not_true_eq_false, if_true, if_false, ite_not, Decidable.not_not, and_true, true_and, or_false, false_or, Nat.reduceLeDiff, Nat.reduceMod, Nat.reduceEqDiff, ld0 hD, ld1 hD, ld2 hD, ld3 hD, ld4 hD, ld5 hD, ld6 hD, lb0 (ldB hD), lb1 (ldB hD), lb2 (ldB hD), lb3 (ldB hD), lb4 (ldB hD), lb5 (ldB hD), lb6 (ldB hD), lbr hB hr, lbr2 hB hr, ix40 hr, cl40 hr, rbr3 hR hrR, rbr6 hR hrR, X3_isPayable_ev hB hr, X1_hasReport_ev hB qR (by omega), ho, h1, h2, n20]
    · rw [if_neg h2]
      have f1 := (hFI.mono (Nat.le_succ N)).wR (v := 4) (j := 3) hr (by decide) (by decide) (by decide) (fun _ => (hFI.1.2 r hrR).w3 v6_4 (fun _ => h5 (by rcases h1 with h1 | h1 | h1 <;> (rw [h1]; decide))) (fun q => by rcases q with q | q <;> exact absurd q (by decide)) (fun q => by rcases q with q | q | q <;> exact absurd q (by decide)))
      refine deed hcl hN f1.unfs ?_
      obtain ⟨J, m', e, ⟨hRJ, hCJ⟩, hk⟩ := X4_remember_ev (xl := xl) (xs := xs) hD hR hF4 hC
      have hk1 : 1 ≤ 1 + 18 + r ∧ 1 + 18 + r < 1 + 58 := by omega
      have hRK := hRJ.wr3 (v := 4) h6 h8 h40 hr
      obtain ⟨K, e2, hRK2, hFK⟩ := X1_releaseFolded_ev (xl := xl) (xs := xs) hB hRK f1.1 (k := r) (by omega)
      obtain ⟨g1, g2⟩ := behind (K := K) hCJ hk ((Fr.rf.u2 hk1).tr hFK)
      refine ⟨_, m', ?_, ⟨hRK2, g1⟩, g2⟩
      rcases h1 with h1 | h1 | h1
      · simp only [eX4_refuse_0, eX4_refuse_1, eX4_refuse_4, eX4_refuse_5, eX4_refuse_8, eX4_refuse_11, eX4_refuse_14, eX4_refuse_15, eX4_refuse_16, eX4_refuse_19, eX4_refuse_22, eX4_refuse_23, eX4_refuse_24, eX4_refuse_25, eX4_refuse_26, eX4_refuse_29, eX4_refuse_32, eX4_refuse_33, eX4_refuse_36, eX4_refuse_39, eX4_refuse_42, eX4_refuse_43, eX4_refuse_44, eX4_refuse_47, eX4_refuse_48, eX4_refuse_51, eX4_refuse_54, eX4_refuse_55, eX4_refuse_56, eX4_refuse_59, eX4_refuse_60, eX4_refuse_61, eX4_refuse_64, eX4_refuse_65, eX4_refuse_68, eX4_refuse_69, eX4_refuse_72, one0, and_false, false_and, gk, gr, gi, gs, rv_some, ret_i, ret_n, Option.bind_some, List.cons_append, List.nil_append, z0, z1, zi, zj, i10, i01, true_or, or_true, eq_self, not_false_eq_true, not_true_eq_false, if_true, if_false, ite_not, Decidable.not_not, and_true, true_and, or_false, false_or, Nat.reduceLeDiff, Nat.reduceMod, Nat.reduceEqDiff, ld0 hD, ld1 hD, ld2 hD, ld3 hD, ld4 hD, ld5 hD, ld6 hD, lb0 (ldB hD), lb1 (ldB hD), lb2 (ldB hD), lb3 (ldB hD), lb4 (ldB hD), lb5 (ldB hD), lb6 (ldB hD), lbr hB hr, lbr2 hB hr, ix40 hr, cl40 hr, rbr3 hR hrR, rbr6 hR hrR, X3_isPayable_ev hB hr, X1_hasReport_ev hB qR (by omega), ho, h1, h2, n20, e, e2]
      · simp only [eX4_refuse_0, eX4_refuse_1, eX4_refuse_4, eX4_refuse_5, eX4_refuse_8, eX4_refuse_11, eX4_refuse_14, eX4_refuse_15, eX4_refuse_16, eX4_refuse_19, eX4_refuse_22, eX4_refuse_23, eX4_refuse_24, eX4_refuse_25, eX4_refuse_26, eX4_refuse_29, eX4_refuse_32, eX4_refuse_33, eX4_refuse_36, eX4_refuse_39, eX4_refuse_42, eX4_refuse_43, eX4_refuse_44, eX4_refuse_47, eX4_refuse_48, eX4_refuse_51, eX4_refuse_54, eX4_refuse_55, eX4_refuse_56, eX4_refuse_59, eX4_refuse_60, eX4_refuse_61, eX4_refuse_64, eX4_refuse_65, eX4_refuse_68, eX4_refuse_69, eX4_refuse_72, one0, and_false, false_and, gk, gr, gi, gs, rv_some, ret_i, ret_n, Option.bind_some, List.cons_append, List.nil_append, z0, z1, zi, zj, i10, i01, true_or, or_true, eq_self, not_false_eq_true, not_true_eq_false, if_true, if_false, ite_not, Decidable.not_not, and_true, true_and, or_false, false_or, Nat.reduceLeDiff, Nat.reduceMod, Nat.reduceEqDiff, ld0 hD, ld1 hD, ld2 hD, ld3 hD, ld4 hD, ld5 hD, ld6 hD, lb0 (ldB hD), lb1 (ldB hD), lb2 (ldB hD), lb3 (ldB hD), lb4 (ldB hD), lb5 (ldB hD), lb6 (ldB hD), lbr hB hr, lbr2 hB hr, ix40 hr, cl40 hr, rbr3 hR hrR, rbr6 hR hrR, X3_isPayable_ev hB hr, X1_hasReport_ev hB qR (by omega), ho, h1, h2, n20, e, e2]
      · simp only [eX4_refuse_0, eX4_refuse_1, eX4_refuse_4, eX4_refuse_5, eX4_refuse_8, eX4_refuse_11, eX4_refuse_14, eX4_refuse_15, eX4_refuse_16, eX4_refuse_19, eX4_refuse_22, eX4_refuse_23, eX4_refuse_24, eX4_refuse_25, eX4_refuse_26, eX4_refuse_29, eX4_refuse_32, eX4_refuse_33, eX4_refuse_36, eX4_refuse_39, eX4_refuse_42, eX4_refuse_43, eX4_refuse_44, eX4_refuse_47, eX4_refuse_48, eX4_refuse_51, eX4_refuse_54, eX4_refuse_55, eX4_refuse_56, eX4_refuse_59, eX4_refuse_60, eX4_refuse_61, eX4_refuse_64, eX4_refuse_65, eX4_refuse_68, eX4_refuse_69, eX4_refuse_72, one0, and_false, false_and, gk, gr, gi, gs, rv_some, ret_i, ret_n, Option.bind_some, List.cons_append, List.nil_append, z0, z1, zi, zj, i10, i01, true_or, or_true, eq_self, not_false_eq_true, not_true_eq_false, if_true, if_false, ite_not, Decidable.not_not, and_true, true_and, or_false, false_or, Nat.reduceLeDiff, Nat.reduceMod, Nat.reduceEqDiff, ld0 hD, ld1 hD, ld2 hD, ld3 hD, ld4 hD, ld5 hD, ld6 hD, lb0 (ldB hD), lb1 (ldB hD), lb2 (ldB hD), lb3 (ldB hD), lb4 (ldB hD), lb5 (ldB hD), lb6 (ldB hD), lbr hB hr, lbr2 hB hr, ix40 hr, cl40 hr, rbr3 hR hrR, rbr6 hR hrR, X3_isPayable_ev hB hr, X1_hasReport_ev hB qR (by omega), ho, h1, h2, n20, e, e2]
  · rw [if_neg h1]
    show _ = _
    have n0 : ¬ rp s r 3 = 0 := fun q => h1 (Or.inl q)
    have n1 : ¬ (rp s r 3 = 1 ∨ rp s r 3 = 2) := fun q => h1 (Or.inr q)
    simp only [eX4_refuse_0, eX4_refuse_1, eX4_refuse_4, eX4_refuse_5, eX4_refuse_8, eX4_refuse_11, eX4_refuse_14, eX4_refuse_15, eX4_refuse_16, eX4_refuse_19, eX4_refuse_22, eX4_refuse_23, eX4_refuse_24, eX4_refuse_25, eX4_refuse_26, eX4_refuse_29, eX4_refuse_32, eX4_refuse_33, eX4_refuse_36, eX4_refuse_39, eX4_refuse_42, eX4_refuse_43, eX4_refuse_44, eX4_refuse_47, eX4_refuse_48, eX4_refuse_51, eX4_refuse_54, eX4_refuse_55, eX4_refuse_56, eX4_refuse_59, eX4_refuse_60, eX4_refuse_61, eX4_refuse_64, eX4_refuse_65, eX4_refuse_68, eX4_refuse_69, eX4_refuse_72, one0, and_false, false_and, gk, gr, gi, gs, rv_some, ret_i, ret_n, Option.bind_some, List.cons_append, List.nil_append, z0, z1, zi, zj, i10, i01, true_or, or_true, eq_self, not_false_eq_true, not_true_eq_false, if_true, if_false, ite_not, Decidable.not_not, and_true, true_and, or_false, false_or, Nat.reduceLeDiff, Nat.reduceMod, Nat.reduceEqDiff, ld0 hD, ld1 hD, ld2 hD, ld3 hD, ld4 hD, ld5 hD, ld6 hD, lb0 (ldB hD), lb1 (ldB hD), lb2 (ldB hD), lb3 (ldB hD), lb4 (ldB hD), lb5 (ldB hD), lb6 (ldB hD), lbr hB hr, lbr2 hB hr, ix40 hr, cl40 hr, rbr3 hR hrR, rbr6 hR hrR, X3_isPayable_ev hB hr, X1_hasReport_ev hB qR (by omega), ho, n0, n1]
theorem op_refuse_out (hcl : Cl F I s nA nH nR n m H) (hFI : FI N s nA nH nR) {v : Int32} (ho : out v nR) : pm_ev tb xl xs mX4_refuse 0 [some (.ref 0), some (.int v), none] [] (pm_G F I) = some (some (.int (-10001)), pm_G F I) := by
  have hD := hcl.1
  have hR := hcl.2.1
  have hF4 := hcl.2.2.1
  have hC := hcl.2.2.2
  have hB := ldB hD
  have h6 := hFI.1.1.1.2
  have h8 := hFI.1.1.2.1.2
  have h40 := hFI.1.1.2.2.1.2
  have hnA := hFI.1.1.1.1
  have hnH := hFI.1.1.2.1.1
  have hnR := hFI.1.1.2.2.1.1
  have qA : I 1 3 = nI nA := (rbg3 hR).trans hnA
  have qH : I 1 4 = nI nH := (rbg4 hR).trans hnH
  have qR : I 1 5 = nI nR := (rbg5 hR).trans hnR
  have hrb := hFI.rb
  simp only [eX4_refuse_0, eX4_refuse_1, eX4_refuse_4, eX4_refuse_5, eX4_refuse_8, eX4_refuse_11, eX4_refuse_14, eX4_refuse_15, eX4_refuse_16, eX4_refuse_19, eX4_refuse_22, eX4_refuse_23, eX4_refuse_24, eX4_refuse_25, eX4_refuse_26, eX4_refuse_29, eX4_refuse_32, eX4_refuse_33, eX4_refuse_36, eX4_refuse_39, eX4_refuse_42, eX4_refuse_43, eX4_refuse_44, eX4_refuse_47, eX4_refuse_48, eX4_refuse_51, eX4_refuse_54, eX4_refuse_55, eX4_refuse_56, eX4_refuse_59, eX4_refuse_60, eX4_refuse_61, eX4_refuse_64, eX4_refuse_65, eX4_refuse_68, eX4_refuse_69, eX4_refuse_72, one0, and_false, false_and, gk, gr, gi, gs, rv_some, ret_i, ret_n, Option.bind_some, List.cons_append, List.nil_append, z0, z1, zi, zj, i10, i01, true_or, or_true, eq_self, not_false_eq_true, not_true_eq_false, if_true, if_false, ite_not, Decidable.not_not, and_true, true_and, or_false, false_or, Nat.reduceLeDiff, Nat.reduceMod, Nat.reduceEqDiff, ld0 hD, ld1 hD, ld2 hD, ld3 hD, ld4 hD, ld5 hD, ld6 hD, lb0 (ldB hD), lb1 (ldB hD), lb2 (ldB hD), lb3 (ldB hD), lb4 (ldB hD), lb5 (ldB hD), lb6 (ldB hD), X1_hasReport_ev hB qR (by omega), ho]
def o_appeal (s : St) (nA nH nR : Nat) (r : Nat) (w : Int32) : Int32 × Option (St × Nat × Nat × Nat) := if w < 2 ∨ 4 < w then (-10001, none) else if isDue s r then (if rp s r 6 = 0 then (if rp s r 4 < w then (prS (sR (sR s r 6 1) r 7 w) r w, some (sR (sR s r 6 1) r 7 w, nA, nH, nR)) else (-10002, none)) else (-10002, none)) else (-10002, none)
theorem op_appeal (hcl : Cl F I s nA nH nR n m H) (hFI : FI N s nA nH nR) (hN : N < 400) {r : Nat} (hrR : r < nR) (w : Int32) : Ans F N I s n H (fun M => pm_ev tb xl xs mX4_appeal 0 [some (.ref 0), some (.int (nI r)), some (.int w), none] [] M) (o_appeal s nA nH nR r w) := by
  have hD := hcl.1
  have hR := hcl.2.1
  have hF4 := hcl.2.2.1
  have hC := hcl.2.2.2
  have hB := ldB hD
  have h6 := hFI.1.1.1.2
  have h8 := hFI.1.1.2.1.2
  have h40 := hFI.1.1.2.2.1.2
  have hnA := hFI.1.1.1.1
  have hnH := hFI.1.1.2.1.1
  have hnR := hFI.1.1.2.2.1.1
  have qA : I 1 3 = nI nA := (rbg3 hR).trans hnA
  have qH : I 1 4 = nI nH := (rbg4 hR).trans hnH
  have qR : I 1 5 = nI nR := (rbg5 hR).trans hnR
  have hrb := hFI.rb
  have ho : ¬ out (nI r) nR := in_n hrR (by omega)
  have hr : r < 40 := by omega
  unfold o_appeal
  by_cases h1 : w < 2 ∨ 4 < w
  · rw [if_pos h1]
    show _ = _
    simp only [eX4_appeal_0, eX4_appeal_1, eX4_appeal_4, eX4_appeal_5, eX4_appeal_8, eX4_appeal_11, eX4_appeal_12, eX4_appeal_13, eX4_appeal_14, eX4_appeal_17, eX4_appeal_20, eX4_appeal_23, eX4_appeal_24, eX4_appeal_25, eX4_appeal_28, eX4_appeal_31, eX4_appeal_32, eX4_appeal_33, eX4_appeal_34, eX4_appeal_35, eX4_appeal_38, eX4_appeal_41, eX4_appeal_42, eX4_appeal_45, eX4_appeal_48, eX4_appeal_49, eX4_appeal_50, eX4_appeal_53, eX4_appeal_56, eX4_appeal_59, eX4_appeal_60, eX4_appeal_61, eX4_appeal_64, eX4_appeal_65, eX4_appeal_66, eX4_appeal_69, eX4_appeal_70, eX4_appeal_71, eX4_appeal_74, eX4_appeal_75, eX4_appeal_78, eX4_appeal_79, eX4_appeal_80, eX4_appeal_83, one0, and_false, false_and, gk, gr, gi, gs, rv_some, ret_i, ret_n, Option.bind_some, List.cons_append, List.nil_append, z0, z1, zi, zj, i10, i01, true_or, or_true, eq_self, not_false_eq_true, not_true_eq_false, if_true, if_false, ite_not, Decidable.not_not, and_true, true_and, or_false, false_or, Nat.reduceLeDiff, Nat.reduceMod, Nat.reduceEqDiff, ld0 hD, ld1 hD, ld2 hD, ld3 hD, ld4 hD, ld5 hD, ld6 hD, lb0 (ldB hD), lb1 (ldB hD), lb2 (ldB hD), lb3 (ldB hD), lb4 (ldB hD), lb5 (ldB hD), lb6 (ldB hD), X1_hasReport_ev hB qR (by omega), ho, X4_isOutside_ev, h1]
  · rw [if_neg h1]
    by_cases h2 : isDue s r
    · rw [if_pos h2]
      by_cases h3 : rp s r 6 = 0
      · rw [if_pos h3]
        by_cases h4 : rp s r 4 < w
        · rw [if_pos h4]
          obtain ⟨x, rfl, hx1, hx2⟩ := rng_of (a := 2) (b := 4) (by omega) (by omega) h1
          obtain ⟨a, haA, hra, -⟩ := vin (hFI.1.1.2.2.2 r hrR).2 (by omega)
          have n05 : ¬ (rp s r 3 = 0 ∨ rp s r 3 = 5) := by
            intro q
            rcases h2 with h2 | h2 <;> rw [h2] at q <;> rcases q with q | q <;> exact absurd q (by decide)
          have f1 := (hFI.mono (Nat.le_succ N)).wR (v := 1) (j := 6) hr (by decide) (by decide) (by decide) (fun _ => (hFI.1.2 r hrR).w6 v3_1 n05)
          have f2 := f1.wR (v := nI x) (j := 7) hr (by decide) (by decide) (by decide) (fun _ => (f1.1.2 r hrR).w7 (in_n (by omega) (by omega)) (by rw [rp_sR (by decide) (by decide), if_neg (by omega)]; exact n05))
          refine deed hcl hN f2 ?_
          obtain ⟨J, m', e, ⟨hRJ, hCJ⟩, hk⟩ := X4_remember_ev (xl := xl) (xs := xs) hD hR hF4 hC
          have hk1 : 1 ≤ 1 + 18 + r ∧ 1 + 18 + r < 1 + 58 := by omega
          obtain ⟨g1, g2⟩ := behind (K := pm_u2 (pm_u2 J (1 + 18 + r) 6 1) (1 + 18 + r) 7 (nI x)) hCJ hk ((Fr.rf.u2 hk1).u2 hk1)
          have hRK := (hRJ.wr6 (v := 1) h6 h8 h40 hr).wr7 (v := nI x) h6 h8 h40 hr
          refine ⟨_, m', ?_, ⟨hRK, g1⟩, g2⟩
          simp only [eX4_appeal_0, eX4_appeal_1, eX4_appeal_4, eX4_appeal_5, eX4_appeal_8, eX4_appeal_11, eX4_appeal_12, eX4_appeal_13, eX4_appeal_14, eX4_appeal_17, eX4_appeal_20, eX4_appeal_23, eX4_appeal_24, eX4_appeal_25, eX4_appeal_28, eX4_appeal_31, eX4_appeal_32, eX4_appeal_33, eX4_appeal_34, eX4_appeal_35, eX4_appeal_38, eX4_appeal_41, eX4_appeal_42, eX4_appeal_45, eX4_appeal_48, eX4_appeal_49, eX4_appeal_50, eX4_appeal_53, eX4_appeal_56, eX4_appeal_59, eX4_appeal_60, eX4_appeal_61, eX4_appeal_64, eX4_appeal_65, eX4_appeal_66, eX4_appeal_69, eX4_appeal_70, eX4_appeal_71, eX4_appeal_74, eX4_appeal_75, eX4_appeal_78, eX4_appeal_79, eX4_appeal_80, eX4_appeal_83, one0, and_false, false_and, gk, gr, gi, gs, rv_some, ret_i, ret_n, Option.bind_some, List.cons_append, List.nil_append, z0, z1, zi, zj, i10, i01, true_or, or_true, eq_self, not_false_eq_true, not_true_eq_false, if_true, if_false, ite_not, Decidable.not_not, and_true, true_and, or_false, false_or, Nat.reduceLeDiff, Nat.reduceMod, Nat.reduceEqDiff, ld0 hD, ld1 hD, ld2 hD, ld3 hD, ld4 hD, ld5 hD, ld6 hD, lb0 (ldB hD), lb1 (ldB hD), lb2 (ldB hD), lb3 (ldB hD), lb4 (ldB hD), lb5 (ldB hD), lb6 (ldB hD), lbr hB hr, lbr2 hB hr, ix40 hr, cl40 hr, rbr3 hR hrR, rbr4 hR hrR, rbr6 hR hrR, X3_isPayable_ev hB hr, X1_hasReport_ev hB qR (by omega), ho, X4_isOutside_ev, h1, h2, h3, h4, e, X1_priceWith_ev hB hRK f2.1.1 hrR]
        · rw [if_neg h4]
          show _ = _
          simp only [eX4_appeal_0, eX4_appeal_1, eX4_appeal_4, eX4_appeal_5, eX4_appeal_8, eX4_appeal_11, eX4_appeal_12, eX4_appeal_13, eX4_appeal_14, eX4_appeal_17, eX4_appeal_20, eX4_appeal_23, eX4_appeal_24, eX4_appeal_25, eX4_appeal_28, eX4_appeal_31, eX4_appeal_32, eX4_appeal_33, eX4_appeal_34, eX4_appeal_35, eX4_appeal_38, eX4_appeal_41, eX4_appeal_42, eX4_appeal_45, eX4_appeal_48, eX4_appeal_49, eX4_appeal_50, eX4_appeal_53, eX4_appeal_56, eX4_appeal_59, eX4_appeal_60, eX4_appeal_61, eX4_appeal_64, eX4_appeal_65, eX4_appeal_66, eX4_appeal_69, eX4_appeal_70, eX4_appeal_71, eX4_appeal_74, eX4_appeal_75, eX4_appeal_78, eX4_appeal_79, eX4_appeal_80, eX4_appeal_83, one0, and_false, false_and, gk, gr, gi, gs, rv_some, ret_i, ret_n, Option.bind_some, List.cons_append, List.nil_append, z0, z1, zi, zj, i10, i01, true_or, or_true, eq_self, not_false_eq_true, not_true_eq_false, if_true, if_false, ite_not, Decidable.not_not, and_true, true_and, or_false, false_or, Nat.reduceLeDiff, Nat.reduceMod, Nat.reduceEqDiff, ld0 hD, ld1 hD, ld2 hD, ld3 hD, ld4 hD, ld5 hD, ld6 hD, lb0 (ldB hD), lb1 (ldB hD), lb2 (ldB hD), lb3 (ldB hD), lb4 (ldB hD), lb5 (ldB hD), lb6 (ldB hD), lbr hB hr, lbr2 hB hr, ix40 hr, cl40 hr, rbr3 hR hrR, rbr4 hR hrR, rbr6 hR hrR, X3_isPayable_ev hB hr, X1_hasReport_ev hB qR (by omega), ho, X4_isOutside_ev, h1, h2, h3, h4]
      · rw [if_neg h3]
        show _ = _
        simp only [eX4_appeal_0, eX4_appeal_1, eX4_appeal_4, eX4_appeal_5, eX4_appeal_8, eX4_appeal_11, eX4_appeal_12, eX4_appeal_13, eX4_appeal_14, eX4_appeal_17, eX4_appeal_20, eX4_appeal_23, eX4_appeal_24, eX4_appeal_25, eX4_appeal_28, eX4_appeal_31, eX4_appeal_32, eX4_appeal_33, eX4_appeal_34, eX4_appeal_35, eX4_appeal_38, eX4_appeal_41, eX4_appeal_42, eX4_appeal_45, eX4_appeal_48, eX4_appeal_49, eX4_appeal_50, eX4_appeal_53, eX4_appeal_56, eX4_appeal_59, eX4_appeal_60, eX4_appeal_61, eX4_appeal_64, eX4_appeal_65, eX4_appeal_66, eX4_appeal_69, eX4_appeal_70, eX4_appeal_71, eX4_appeal_74, eX4_appeal_75, eX4_appeal_78, eX4_appeal_79, eX4_appeal_80, eX4_appeal_83, one0, and_false, false_and, gk, gr, gi, gs, rv_some, ret_i, ret_n, Option.bind_some, List.cons_append, List.nil_append, z0, z1, zi, zj, i10, i01, true_or, or_true, eq_self, not_false_eq_true, not_true_eq_false, if_true, if_false, ite_not, Decidable.not_not, and_true, true_and, or_false, false_or, Nat.reduceLeDiff, Nat.reduceMod, Nat.reduceEqDiff, ld0 hD, ld1 hD, ld2 hD, ld3 hD, ld4 hD, ld5 hD, ld6 hD, lb0 (ldB hD), lb1 (ldB hD), lb2 (ldB hD), lb3 (ldB hD), lb4 (ldB hD), lb5 (ldB hD), lb6 (ldB hD), lbr hB hr, lbr2 hB hr, ix40 hr, cl40 hr, rbr3 hR hrR, rbr4 hR hrR, rbr6 hR hrR, X3_isPayable_ev hB hr, X1_hasReport_ev hB qR (by omega), ho, X4_isOutside_ev, h1, h2, h3]
    · rw [if_neg h2]
      show _ = _
      simp only [eX4_appeal_0, eX4_appeal_1, eX4_appeal_4, eX4_appeal_5, eX4_appeal_8, eX4_appeal_11, eX4_appeal_12, eX4_appeal_13, eX4_appeal_14, eX4_appeal_17, eX4_appeal_20, eX4_appeal_23, eX4_appeal_24, eX4_appeal_25, eX4_appeal_28, eX4_appeal_31, eX4_appeal_32, eX4_appeal_33, eX4_appeal_34, eX4_appeal_35, eX4_appeal_38, eX4_appeal_41, eX4_appeal_42, eX4_appeal_45, eX4_appeal_48, eX4_appeal_49, eX4_appeal_50, eX4_appeal_53, eX4_appeal_56, eX4_appeal_59, eX4_appeal_60, eX4_appeal_61, eX4_appeal_64, eX4_appeal_65, eX4_appeal_66, eX4_appeal_69, eX4_appeal_70, eX4_appeal_71, eX4_appeal_74, eX4_appeal_75, eX4_appeal_78, eX4_appeal_79, eX4_appeal_80, eX4_appeal_83, one0, and_false, false_and, gk, gr, gi, gs, rv_some, ret_i, ret_n, Option.bind_some, List.cons_append, List.nil_append, z0, z1, zi, zj, i10, i01, true_or, or_true, eq_self, not_false_eq_true, not_true_eq_false, if_true, if_false, ite_not, Decidable.not_not, and_true, true_and, or_false, false_or, Nat.reduceLeDiff, Nat.reduceMod, Nat.reduceEqDiff, ld0 hD, ld1 hD, ld2 hD, ld3 hD, ld4 hD, ld5 hD, ld6 hD, lb0 (ldB hD), lb1 (ldB hD), lb2 (ldB hD), lb3 (ldB hD), lb4 (ldB hD), lb5 (ldB hD), lb6 (ldB hD), lbr hB hr, lbr2 hB hr, ix40 hr, cl40 hr, rbr3 hR hrR, rbr4 hR hrR, rbr6 hR hrR, X3_isPayable_ev hB hr, X1_hasReport_ev hB qR (by omega), ho, X4_isOutside_ev, h1, h2]
theorem op_appeal_out (hcl : Cl F I s nA nH nR n m H) (hFI : FI N s nA nH nR) {v w : Int32} (h : out v nR ∨ w < 2 ∨ 4 < w) : pm_ev tb xl xs mX4_appeal 0 [some (.ref 0), some (.int v), some (.int w), none] [] (pm_G F I) = some (some (.int (-10001)), pm_G F I) := by
  have hD := hcl.1
  have hR := hcl.2.1
  have hF4 := hcl.2.2.1
  have hC := hcl.2.2.2
  have hB := ldB hD
  have h6 := hFI.1.1.1.2
  have h8 := hFI.1.1.2.1.2
  have h40 := hFI.1.1.2.2.1.2
  have hnA := hFI.1.1.1.1
  have hnH := hFI.1.1.2.1.1
  have hnR := hFI.1.1.2.2.1.1
  have qA : I 1 3 = nI nA := (rbg3 hR).trans hnA
  have qH : I 1 4 = nI nH := (rbg4 hR).trans hnH
  have qR : I 1 5 = nI nR := (rbg5 hR).trans hnR
  have hrb := hFI.rb
  by_cases ho : out v nR
  · simp only [eX4_appeal_0, eX4_appeal_1, eX4_appeal_4, eX4_appeal_5, eX4_appeal_8, eX4_appeal_11, eX4_appeal_12, eX4_appeal_13, eX4_appeal_14, eX4_appeal_17, eX4_appeal_20, eX4_appeal_23, eX4_appeal_24, eX4_appeal_25, eX4_appeal_28, eX4_appeal_31, eX4_appeal_32, eX4_appeal_33, eX4_appeal_34, eX4_appeal_35, eX4_appeal_38, eX4_appeal_41, eX4_appeal_42, eX4_appeal_45, eX4_appeal_48, eX4_appeal_49, eX4_appeal_50, eX4_appeal_53, eX4_appeal_56, eX4_appeal_59, eX4_appeal_60, eX4_appeal_61, eX4_appeal_64, eX4_appeal_65, eX4_appeal_66, eX4_appeal_69, eX4_appeal_70, eX4_appeal_71, eX4_appeal_74, eX4_appeal_75, eX4_appeal_78, eX4_appeal_79, eX4_appeal_80, eX4_appeal_83, one0, and_false, false_and, gk, gr, gi, gs, rv_some, ret_i, ret_n, Option.bind_some, List.cons_append, List.nil_append, z0, z1, zi, zj, i10, i01, true_or, or_true, eq_self, not_false_eq_true, not_true_eq_false, if_true, if_false, ite_not, Decidable.not_not, and_true, true_and, or_false, false_or, Nat.reduceLeDiff, Nat.reduceMod, Nat.reduceEqDiff, ld0 hD, ld1 hD, ld2 hD, ld3 hD, ld4 hD, ld5 hD, ld6 hD, lb0 (ldB hD), lb1 (ldB hD), lb2 (ldB hD), lb3 (ldB hD), lb4 (ldB hD), lb5 (ldB hD), lb6 (ldB hD), X1_hasReport_ev hB qR (by omega), ho]
  · have h1 := h.resolve_left ho
    simp only [eX4_appeal_0, eX4_appeal_1, eX4_appeal_4, eX4_appeal_5, eX4_appeal_8, eX4_appeal_11, eX4_appeal_12, eX4_appeal_13, eX4_appeal_14, eX4_appeal_17, eX4_appeal_20, eX4_appeal_23, eX4_appeal_24, eX4_appeal_25, eX4_appeal_28, eX4_appeal_31, eX4_appeal_32, eX4_appeal_33, eX4_appeal_34, eX4_appeal_35, eX4_appeal_38, eX4_appeal_41, eX4_appeal_42, eX4_appeal_45, eX4_appeal_48, eX4_appeal_49, eX4_appeal_50, eX4_appeal_53, eX4_appeal_56, eX4_appeal_59, eX4_appeal_60, eX4_appeal_61, eX4_appeal_64, eX4_appeal_65, eX4_appeal_66, eX4_appeal_69, eX4_appeal_70, eX4_appeal_71, eX4_appeal_74, eX4_appeal_75, eX4_appeal_78, eX4_appeal_79, eX4_appeal_80, eX4_appeal_83, one0, and_false, false_and, gk, gr, gi, gs, rv_some, ret_i, ret_n, Option.bind_some, List.cons_append, List.nil_append, z0, z1, zi, zj, i10, i01, true_or, or_true, eq_self, not_false_eq_true, not_true_eq_false, if_true, if_false, ite_not, Decidable.not_not, and_true, true_and, or_false, false_or, Nat.reduceLeDiff, Nat.reduceMod, Nat.reduceEqDiff, ld0 hD, ld1 hD, ld2 hD, ld3 hD, ld4 hD, ld5 hD, ld6 hD, lb0 (ldB hD), lb1 (ldB hD), lb2 (ldB hD), lb3 (ldB hD), lb4 (ldB hD), lb5 (ldB hD), lb6 (ldB hD), X1_hasReport_ev hB qR (by omega), ho, X4_isOutside_ev, h1]
def o_decide (s : St) (nA nH nR : Nat) (r : Nat) (w : Int32) : Int32 × Option (St × Nat × Nat × Nat) := if rp s r 6 = 1 then (if w < rp s r 4 ∨ rp s r 7 < w then (-10001, none) else ((decS s r w).2, some ((decS s r w).1, nA, nH, nR))) else (-10002, none)
theorem op_decide (hcl : Cl F I s nA nH nR n m H) (hFI : FI N s nA nH nR) (hN : N < 400) {r : Nat} (hrR : r < nR) (w : Int32) : Ans F N I s n H (fun M => pm_ev tb xl xs mX4_decide 0 [some (.ref 0), some (.int (nI r)), some (.int w), none] [] M) (o_decide s nA nH nR r w) := by
  have hD := hcl.1
  have hR := hcl.2.1
  have hF4 := hcl.2.2.1
  have hC := hcl.2.2.2
  have hB := ldB hD
  have h6 := hFI.1.1.1.2
  have h8 := hFI.1.1.2.1.2
  have h40 := hFI.1.1.2.2.1.2
  have hnA := hFI.1.1.1.1
  have hnH := hFI.1.1.2.1.1
  have hnR := hFI.1.1.2.2.1.1
  have qA : I 1 3 = nI nA := (rbg3 hR).trans hnA
  have qH : I 1 4 = nI nH := (rbg4 hR).trans hnH
  have qR : I 1 5 = nI nR := (rbg5 hR).trans hnR
  have hrb := hFI.rb
  have ho : ¬ out (nI r) nR := in_n hrR (by omega)
  have hr : r < 40 := by omega
  unfold o_decide
  by_cases h1 : rp s r 6 = 1
  · rw [if_pos h1]
    by_cases h2 : w < rp s r 4 ∨ rp s r 7 < w
    · rw [if_pos h2]
      show _ = _
      simp only [eX4_decide_0, eX4_decide_1, eX4_decide_4, eX4_decide_5, eX4_decide_8, eX4_decide_11, eX4_decide_14, eX4_decide_15, eX4_decide_16, eX4_decide_19, eX4_decide_22, eX4_decide_23, eX4_decide_24, eX4_decide_25, eX4_decide_26, eX4_decide_29, eX4_decide_30, eX4_decide_33, eX4_decide_36, eX4_decide_37, eX4_decide_38, eX4_decide_39, eX4_decide_42, eX4_decide_43, eX4_decide_46, eX4_decide_49, eX4_decide_52, eX4_decide_55, eX4_decide_56, eX4_decide_57, eX4_decide_60, eX4_decide_61, eX4_decide_64, eX4_decide_65, eX4_decide_66, eX4_decide_69, one0, and_false, false_and, gk, gr, gi, gs, rv_some, ret_i, ret_n, Option.bind_some, List.cons_append, List.nil_append, z0, z1, zi, zj, i10, i01, true_or, or_true, eq_self, not_false_eq_true, not_true_eq_false, if_true, if_false, ite_not, Decidable.not_not, and_true, true_and, or_false, false_or, Nat.reduceLeDiff, Nat.reduceMod, Nat.reduceEqDiff, ld0 hD, ld1 hD, ld2 hD, ld3 hD, ld4 hD, ld5 hD, ld6 hD, lb0 (ldB hD), lb1 (ldB hD), lb2 (ldB hD), lb3 (ldB hD), lb4 (ldB hD), lb5 (ldB hD), lb6 (ldB hD), lbr hB hr, lbr2 hB hr, ix40 hr, cl40 hr, rbr6 hR hrR, rbr4 hR hrR, rbr7 hR hrR, X1_hasReport_ev hB qR (by omega), ho, X4_isOutside_ev, h1, h2]
    · rw [if_neg h2]
      obtain ⟨⟨-, q4, -, q7⟩, -⟩ := hFI.1.2 r hrR
      obtain ⟨y, hy, hy4, -⟩ := vin q4 (by omega)
      obtain ⟨z, hz, hz7, -⟩ := vin q7 (by omega)
      rw [hy4, hz7] at h2
      obtain ⟨x, rfl, hx1, hx2⟩ := rng_of (a := y) (b := z) (by omega) (by omega) h2
      rw [← hy4, ← hz7] at h2
      have hFI' := hFI.dec (x := x) (by omega) hrR h1 (by omega) (fun q => h2 (Or.inl q))
      refine deed hcl hN hFI' ?_
      obtain ⟨J, m', e, ⟨hRJ, hCJ⟩, hk⟩ := X4_remember_ev (xl := xl) (xs := xs) hD hR hF4 hC
      obtain ⟨K, e2, hRK, hFK⟩ := X1_closeAppeal_ev (xl := xl) (xs := xs) hB hRJ hFI.1 hrR (sv := nI x)
      obtain ⟨g1, g2⟩ := behind (K := K) hCJ hk hFK
      refine ⟨_, m', ?_, ⟨hRK, g1⟩, g2⟩
      simp only [eX4_decide_0, eX4_decide_1, eX4_decide_4, eX4_decide_5, eX4_decide_8, eX4_decide_11, eX4_decide_14, eX4_decide_15, eX4_decide_16, eX4_decide_19, eX4_decide_22, eX4_decide_23, eX4_decide_24, eX4_decide_25, eX4_decide_26, eX4_decide_29, eX4_decide_30, eX4_decide_33, eX4_decide_36, eX4_decide_37, eX4_decide_38, eX4_decide_39, eX4_decide_42, eX4_decide_43, eX4_decide_46, eX4_decide_49, eX4_decide_52, eX4_decide_55, eX4_decide_56, eX4_decide_57, eX4_decide_60, eX4_decide_61, eX4_decide_64, eX4_decide_65, eX4_decide_66, eX4_decide_69, one0, and_false, false_and, gk, gr, gi, gs, rv_some, ret_i, ret_n, Option.bind_some, List.cons_append, List.nil_append, z0, z1, zi, zj, i10, i01, true_or, or_true, eq_self, not_false_eq_true, not_true_eq_false, if_true, if_false, ite_not, Decidable.not_not, and_true, true_and, or_false, false_or, Nat.reduceLeDiff, Nat.reduceMod, Nat.reduceEqDiff, ld0 hD, ld1 hD, ld2 hD, ld3 hD, ld4 hD, ld5 hD, ld6 hD, lb0 (ldB hD), lb1 (ldB hD), lb2 (ldB hD), lb3 (ldB hD), lb4 (ldB hD), lb5 (ldB hD), lb6 (ldB hD), lbr hB hr, lbr2 hB hr, ix40 hr, cl40 hr, rbr6 hR hrR, rbr4 hR hrR, rbr7 hR hrR, X1_hasReport_ev hB qR (by omega), ho, X4_isOutside_ev, h1, h2, e, e2]
  · rw [if_neg h1]
    show _ = _
    simp only [eX4_decide_0, eX4_decide_1, eX4_decide_4, eX4_decide_5, eX4_decide_8, eX4_decide_11, eX4_decide_14, eX4_decide_15, eX4_decide_16, eX4_decide_19, eX4_decide_22, eX4_decide_23, eX4_decide_24, eX4_decide_25, eX4_decide_26, eX4_decide_29, eX4_decide_30, eX4_decide_33, eX4_decide_36, eX4_decide_37, eX4_decide_38, eX4_decide_39, eX4_decide_42, eX4_decide_43, eX4_decide_46, eX4_decide_49, eX4_decide_52, eX4_decide_55, eX4_decide_56, eX4_decide_57, eX4_decide_60, eX4_decide_61, eX4_decide_64, eX4_decide_65, eX4_decide_66, eX4_decide_69, one0, and_false, false_and, gk, gr, gi, gs, rv_some, ret_i, ret_n, Option.bind_some, List.cons_append, List.nil_append, z0, z1, zi, zj, i10, i01, true_or, or_true, eq_self, not_false_eq_true, not_true_eq_false, if_true, if_false, ite_not, Decidable.not_not, and_true, true_and, or_false, false_or, Nat.reduceLeDiff, Nat.reduceMod, Nat.reduceEqDiff, ld0 hD, ld1 hD, ld2 hD, ld3 hD, ld4 hD, ld5 hD, ld6 hD, lb0 (ldB hD), lb1 (ldB hD), lb2 (ldB hD), lb3 (ldB hD), lb4 (ldB hD), lb5 (ldB hD), lb6 (ldB hD), lbr hB hr, lbr2 hB hr, ix40 hr, cl40 hr, rbr6 hR hrR, X1_hasReport_ev hB qR (by omega), ho, h1]
theorem op_decide_out (hcl : Cl F I s nA nH nR n m H) (hFI : FI N s nA nH nR) {v w : Int32} (ho : out v nR) : pm_ev tb xl xs mX4_decide 0 [some (.ref 0), some (.int v), some (.int w), none] [] (pm_G F I) = some (some (.int (-10001)), pm_G F I) := by
  have hD := hcl.1
  have hR := hcl.2.1
  have hF4 := hcl.2.2.1
  have hC := hcl.2.2.2
  have hB := ldB hD
  have h6 := hFI.1.1.1.2
  have h8 := hFI.1.1.2.1.2
  have h40 := hFI.1.1.2.2.1.2
  have hnA := hFI.1.1.1.1
  have hnH := hFI.1.1.2.1.1
  have hnR := hFI.1.1.2.2.1.1
  have qA : I 1 3 = nI nA := (rbg3 hR).trans hnA
  have qH : I 1 4 = nI nH := (rbg4 hR).trans hnH
  have qR : I 1 5 = nI nR := (rbg5 hR).trans hnR
  have hrb := hFI.rb
  simp only [eX4_decide_0, eX4_decide_1, eX4_decide_4, eX4_decide_5, eX4_decide_8, eX4_decide_11, eX4_decide_14, eX4_decide_15, eX4_decide_16, eX4_decide_19, eX4_decide_22, eX4_decide_23, eX4_decide_24, eX4_decide_25, eX4_decide_26, eX4_decide_29, eX4_decide_30, eX4_decide_33, eX4_decide_36, eX4_decide_37, eX4_decide_38, eX4_decide_39, eX4_decide_42, eX4_decide_43, eX4_decide_46, eX4_decide_49, eX4_decide_52, eX4_decide_55, eX4_decide_56, eX4_decide_57, eX4_decide_60, eX4_decide_61, eX4_decide_64, eX4_decide_65, eX4_decide_66, eX4_decide_69, one0, and_false, false_and, gk, gr, gi, gs, rv_some, ret_i, ret_n, Option.bind_some, List.cons_append, List.nil_append, z0, z1, zi, zj, i10, i01, true_or, or_true, eq_self, not_false_eq_true, not_true_eq_false, if_true, if_false, ite_not, Decidable.not_not, and_true, true_and, or_false, false_or, Nat.reduceLeDiff, Nat.reduceMod, Nat.reduceEqDiff, ld0 hD, ld1 hD, ld2 hD, ld3 hD, ld4 hD, ld5 hD, ld6 hD, lb0 (ldB hD), lb1 (ldB hD), lb2 (ldB hD), lb3 (ldB hD), lb4 (ldB hD), lb5 (ldB hD), lb6 (ldB hD), X1_hasReport_ev hB qR (by omega), ho]
def o_pay (s : St) (nA nH nR : Nat) (r : Nat) : Int32 × Option (St × Nat × Nat × Nat) := if isDue s r then (if rp s r 6 = 1 then (-10002, none) else ((paysS s nR r).2, some ((paysS s nR r).1, nA, nH, nR))) else (-10002, none)
theorem op_pay (hcl : Cl F I s nA nH nR n m H) (hFI : FI N s nA nH nR) (hN : N < 400) {r : Nat} (hrR : r < nR) : Ans F N I s n H (fun M => pm_ev tb xl xs mX4_pay 0 [some (.ref 0), some (.int (nI r)), none] [] M) (o_pay s nA nH nR r) := by
  have hD := hcl.1
  have hR := hcl.2.1
  have hF4 := hcl.2.2.1
  have hC := hcl.2.2.2
  have hB := ldB hD
  have h6 := hFI.1.1.1.2
  have h8 := hFI.1.1.2.1.2
  have h40 := hFI.1.1.2.2.1.2
  have hnA := hFI.1.1.1.1
  have hnH := hFI.1.1.2.1.1
  have hnR := hFI.1.1.2.2.1.1
  have qA : I 1 3 = nI nA := (rbg3 hR).trans hnA
  have qH : I 1 4 = nI nH := (rbg4 hR).trans hnH
  have qR : I 1 5 = nI nR := (rbg5 hR).trans hnR
  have hrb := hFI.rb
  have ho : ¬ out (nI r) nR := in_n hrR (by omega)
  have hr : r < 40 := by omega
  unfold o_pay
  by_cases h1 : isDue s r
  · rw [if_pos h1]
    by_cases h2 : rp s r 6 = 1
    · rw [if_pos h2]
      show _ = _
      simp only [eX4_pay_0, eX4_pay_1, eX4_pay_4, eX4_pay_5, eX4_pay_8, eX4_pay_11, eX4_pay_14, eX4_pay_15, eX4_pay_16, eX4_pay_19, eX4_pay_22, eX4_pay_23, eX4_pay_24, eX4_pay_25, eX4_pay_26, eX4_pay_29, eX4_pay_32, eX4_pay_33, eX4_pay_36, eX4_pay_37, eX4_pay_40, eX4_pay_43, eX4_pay_44, eX4_pay_45, eX4_pay_48, eX4_pay_49, eX4_pay_52, eX4_pay_53, eX4_pay_56, one0, and_false, false_and, gk, gr, gi, gs, rv_some, ret_i, ret_n, Option.bind_some, List.cons_append, List.nil_append, z0, z1, zi, zj, i10, i01, true_or, or_true, eq_self, not_false_eq_true, not_true_eq_false, if_true, if_false, ite_not, Decidable.not_not, and_true, true_and, or_false, false_or, Nat.reduceLeDiff, Nat.reduceMod, Nat.reduceEqDiff, ld0 hD, ld1 hD, ld2 hD, ld3 hD, ld4 hD, ld5 hD, ld6 hD, lb0 (ldB hD), lb1 (ldB hD), lb2 (ldB hD), lb3 (ldB hD), lb4 (ldB hD), lb5 (ldB hD), lb6 (ldB hD), lbr hB hr, lbr2 hB hr, ix40 hr, cl40 hr, rbr3 hR hrR, rbr6 hR hrR, X3_isPayable_ev hB hr, X1_hasReport_ev hB qR (by omega), ho, h1, h2]
    · rw [if_neg h2]
      refine deed hcl hN (hFI.pays (by omega) hrR h1) ?_
      obtain ⟨J, m', e, ⟨hRJ, hCJ⟩, hk⟩ := X4_remember_ev (xl := xl) (xs := xs) hD hR hF4 hC
      obtain ⟨K, e2, hRK, hFK⟩ := X1_payOrWait_ev (xl := xl) (xs := xs) hB hRJ hFI.1 hrR h1
      obtain ⟨g1, g2⟩ := behind (K := K) hCJ hk hFK
      refine ⟨_, m', ?_, ⟨hRK, g1⟩, g2⟩
      simp only [eX4_pay_0, eX4_pay_1, eX4_pay_4, eX4_pay_5, eX4_pay_8, eX4_pay_11, eX4_pay_14, eX4_pay_15, eX4_pay_16, eX4_pay_19, eX4_pay_22, eX4_pay_23, eX4_pay_24, eX4_pay_25, eX4_pay_26, eX4_pay_29, eX4_pay_32, eX4_pay_33, eX4_pay_36, eX4_pay_37, eX4_pay_40, eX4_pay_43, eX4_pay_44, eX4_pay_45, eX4_pay_48, eX4_pay_49, eX4_pay_52, eX4_pay_53, eX4_pay_56, one0, and_false, false_and, gk, gr, gi, gs, rv_some, ret_i, ret_n, Option.bind_some, List.cons_append, List.nil_append, z0, z1, zi, zj, i10, i01, true_or, or_true, eq_self, not_false_eq_true, not_true_eq_false, if_true, if_false, ite_not, Decidable.not_not, and_true, true_and, or_false, false_or, Nat.reduceLeDiff, Nat.reduceMod, Nat.reduceEqDiff, ld0 hD, ld1 hD, ld2 hD, ld3 hD, ld4 hD, ld5 hD, ld6 hD, lb0 (ldB hD), lb1 (ldB hD), lb2 (ldB hD), lb3 (ldB hD), lb4 (ldB hD), lb5 (ldB hD), lb6 (ldB hD), lbr hB hr, lbr2 hB hr, ix40 hr, cl40 hr, rbr3 hR hrR, rbr6 hR hrR, X3_isPayable_ev hB hr, X1_hasReport_ev hB qR (by omega), ho, h1, h2, e, e2]
  · rw [if_neg h1]
    show _ = _
    simp only [eX4_pay_0, eX4_pay_1, eX4_pay_4, eX4_pay_5, eX4_pay_8, eX4_pay_11, eX4_pay_14, eX4_pay_15, eX4_pay_16, eX4_pay_19, eX4_pay_22, eX4_pay_23, eX4_pay_24, eX4_pay_25, eX4_pay_26, eX4_pay_29, eX4_pay_32, eX4_pay_33, eX4_pay_36, eX4_pay_37, eX4_pay_40, eX4_pay_43, eX4_pay_44, eX4_pay_45, eX4_pay_48, eX4_pay_49, eX4_pay_52, eX4_pay_53, eX4_pay_56, one0, and_false, false_and, gk, gr, gi, gs, rv_some, ret_i, ret_n, Option.bind_some, List.cons_append, List.nil_append, z0, z1, zi, zj, i10, i01, true_or, or_true, eq_self, not_false_eq_true, not_true_eq_false, if_true, if_false, ite_not, Decidable.not_not, and_true, true_and, or_false, false_or, Nat.reduceLeDiff, Nat.reduceMod, Nat.reduceEqDiff, ld0 hD, ld1 hD, ld2 hD, ld3 hD, ld4 hD, ld5 hD, ld6 hD, lb0 (ldB hD), lb1 (ldB hD), lb2 (ldB hD), lb3 (ldB hD), lb4 (ldB hD), lb5 (ldB hD), lb6 (ldB hD), lbr hB hr, lbr2 hB hr, ix40 hr, cl40 hr, rbr3 hR hrR, rbr6 hR hrR, X3_isPayable_ev hB hr, X1_hasReport_ev hB qR (by omega), ho, h1]
theorem op_pay_out (hcl : Cl F I s nA nH nR n m H) (hFI : FI N s nA nH nR) {v : Int32} (ho : out v nR) : pm_ev tb xl xs mX4_pay 0 [some (.ref 0), some (.int v), none] [] (pm_G F I) = some (some (.int (-10001)), pm_G F I) := by
  have hD := hcl.1
  have hR := hcl.2.1
  have hF4 := hcl.2.2.1
  have hC := hcl.2.2.2
  have hB := ldB hD
  have h6 := hFI.1.1.1.2
  have h8 := hFI.1.1.2.1.2
  have h40 := hFI.1.1.2.2.1.2
  have hnA := hFI.1.1.1.1
  have hnH := hFI.1.1.2.1.1
  have hnR := hFI.1.1.2.2.1.1
  have qA : I 1 3 = nI nA := (rbg3 hR).trans hnA
  have qH : I 1 4 = nI nH := (rbg4 hR).trans hnH
  have qR : I 1 5 = nI nR := (rbg5 hR).trans hnR
  have hrb := hFI.rb
  simp only [eX4_pay_0, eX4_pay_1, eX4_pay_4, eX4_pay_5, eX4_pay_8, eX4_pay_11, eX4_pay_14, eX4_pay_15, eX4_pay_16, eX4_pay_19, eX4_pay_22, eX4_pay_23, eX4_pay_24, eX4_pay_25, eX4_pay_26, eX4_pay_29, eX4_pay_32, eX4_pay_33, eX4_pay_36, eX4_pay_37, eX4_pay_40, eX4_pay_43, eX4_pay_44, eX4_pay_45, eX4_pay_48, eX4_pay_49, eX4_pay_52, eX4_pay_53, eX4_pay_56, one0, and_false, false_and, gk, gr, gi, gs, rv_some, ret_i, ret_n, Option.bind_some, List.cons_append, List.nil_append, z0, z1, zi, zj, i10, i01, true_or, or_true, eq_self, not_false_eq_true, not_true_eq_false, if_true, if_false, ite_not, Decidable.not_not, and_true, true_and, or_false, false_or, Nat.reduceLeDiff, Nat.reduceMod, Nat.reduceEqDiff, ld0 hD, ld1 hD, ld2 hD, ld3 hD, ld4 hD, ld5 hD, ld6 hD, lb0 (ldB hD), lb1 (ldB hD), lb2 (ldB hD), lb3 (ldB hD), lb4 (ldB hD), lb5 (ldB hD), lb6 (ldB hD), X1_hasReport_ev hB qR (by omega), ho]
/-- a hunter may retest a report -/
def canRt (s : St) (nR h r : Nat) : Prop := rp s r 3 = 3 ∧ rp s r 9 = 0 ∧ ¬ bitS (rp s r 10 ||| rp s r 11) h ∧ ¬ hasR s nR h r
noncomputable def o_retest (s : St) (nA nH nR : Nat) (h r : Nat) (g : Bool) : Int32 × Option (St × Nat × Nat × Nat) := @ite _ (canRt s nR h r) (Classical.propDecidable _) (if g = true then ((retG s nH h r).2, some ((retG s nH h r).1, nA, nH, nR)) else ((retT s nH nR h r).2, some ((retT s nH nR h r).1, nA, nH, nR))) (-10002, none)
theorem op_retest (hcl : Cl F I s nA nH nR n m H) (hFI : FI N s nA nH nR) (hN : N < 400) {h r : Nat} (hhH : h < nH) (hrR : r < nR) (g : Bool) : Ans F N I s n H (fun M => pm_ev tb xl xs mX4_retest 0 [some (.ref 0), some (.int (nI h)), some (.int (nI r)), some (.int (if g = true then 1 else 0)), none] [] M) (o_retest s nA nH nR h r g) := by
  have hD := hcl.1
  have hR := hcl.2.1
  have hF4 := hcl.2.2.1
  have hC := hcl.2.2.2
  have hB := ldB hD
  have h6 := hFI.1.1.1.2
  have h8 := hFI.1.1.2.1.2
  have h40 := hFI.1.1.2.2.1.2
  have hnA := hFI.1.1.1.1
  have hnH := hFI.1.1.2.1.1
  have hnR := hFI.1.1.2.2.1.1
  have qA : I 1 3 = nI nA := (rbg3 hR).trans hnA
  have qH : I 1 4 = nI nH := (rbg4 hR).trans hnH
  have qR : I 1 5 = nI nR := (rbg5 hR).trans hnR
  have hrb := hFI.rb
  have ho : ¬ out (nI h) nH := in_n hhH (by omega)
  have hq : ¬ out (nI r) nR := in_n hrR (by omega)
  have hr : r < 40 := by omega
  have hh : h < 8 := by omega
  have h1 : ¬ ((if g = true then (1 : Int32) else 0) < 0 ∨ 1 < if g = true then (1 : Int32) else 0) := by cases g <;> decide
  obtain ⟨v1, -, z1', e1⟩ := X1_isReportedBy_ev (xl := xl) (xs := xs) hB hR hFI.1 (h := h) hrR
  have hz : zb (rp s r 9) := (hFI.1.2 r hrR).2.1.1
  have q10 := (hFI.1.2 r hrR).2.1.2.1
  have q11 := (hFI.1.2 r hrR).2.1.2.2
  have hv : vp_in (I (1 + 18 + r) 9 ||| I (1 + 18 + r) 10) 256 := by
    rw [rbr9 hR hrR, rbr10 hR hrR]
    exact or_in q10 q11
  unfold o_retest
  by_cases h3 : rp s r 3 = 3
  · by_cases h9 : rp s r 9 = 0
    · by_cases hb : bitS (rp s r 10 ||| rp s r 11) h
      · rw [if_neg (show ¬ canRt s nR h r from fun q => q.2.2.1 hb)]
        have hb := eq_true hb
        show _ = _
        simp only [eX4_retest_0, eX4_retest_1, eX4_retest_4, eX4_retest_5, eX4_retest_8, eX4_retest_11, eX4_retest_12, eX4_retest_15, eX4_retest_16, eX4_retest_19, eX4_retest_22, eX4_retest_23, eX4_retest_24, eX4_retest_25, eX4_retest_28, eX4_retest_31, eX4_retest_34, eX4_retest_35, eX4_retest_36, eX4_retest_39, eX4_retest_42, eX4_retest_43, eX4_retest_44, eX4_retest_46, eX4_retest_48, eX4_retest_51, eX4_retest_52, eX4_retest_55, eX4_retest_57, eX4_retest_60, eX4_retest_63, eX4_retest_66, eX4_retest_67, eX4_retest_69, eX4_retest_70, eX4_retest_73, eX4_retest_76, eX4_retest_77, eX4_retest_80, eX4_retest_81, eX4_retest_82, eX4_retest_85, eX4_retest_88, eX4_retest_91, eX4_retest_92, eX4_retest_93, eX4_retest_96, eX4_retest_97, eX4_retest_100, eX4_retest_101, eX4_retest_102, eX4_retest_103, eX4_retest_104, eX4_retest_107, eX4_retest_108, eX4_retest_111, eX4_retest_112, eX4_retest_115, one0, and_false, false_and, gk, gr, gi, gs, rv_some, ret_i, ret_n, Option.bind_some, List.cons_append, List.nil_append, z0, z1, zi, zj, i10, i01, true_or, or_true, eq_self, not_false_eq_true, not_true_eq_false, if_true, if_false, ite_not, Decidable.not_not, and_true, true_and, or_false, false_or, Nat.reduceLeDiff, Nat.reduceMod, Nat.reduceEqDiff, ld0 hD, ld1 hD, ld2 hD, ld3 hD, ld4 hD, ld5 hD, ld6 hD, lb0 (ldB hD), lb1 (ldB hD), lb2 (ldB hD), lb3 (ldB hD), lb4 (ldB hD), lb5 (ldB hD), lb6 (ldB hD), lbr hB hr, lbr2 hB hr, ix40 hr, cl40 hr, rbr3 hR hrR, rbr9 hR hrR, rbr10 hR hrR, rbr11 hR hrR, X1_hasHunter_ev hB qH (by omega), X1_hasReport_ev hB qR (by omega), ho, hq, X4_isOutside_ev, h1, h3, h9, hz, X3_isRetestedBy_ev hB hr hh hv, hb]
      · by_cases hR2 : hasR s nR h r
        · have v1n : ¬ v1 = 0 := fun q => z1'.mp q hR2
          rw [if_neg (show ¬ canRt s nR h r from fun q => q.2.2.2 hR2)]
          show _ = _
          simp only [eX4_retest_0, eX4_retest_1, eX4_retest_4, eX4_retest_5, eX4_retest_8, eX4_retest_11, eX4_retest_12, eX4_retest_15, eX4_retest_16, eX4_retest_19, eX4_retest_22, eX4_retest_23, eX4_retest_24, eX4_retest_25, eX4_retest_28, eX4_retest_31, eX4_retest_34, eX4_retest_35, eX4_retest_36, eX4_retest_39, eX4_retest_42, eX4_retest_43, eX4_retest_44, eX4_retest_46, eX4_retest_48, eX4_retest_51, eX4_retest_52, eX4_retest_55, eX4_retest_57, eX4_retest_60, eX4_retest_63, eX4_retest_66, eX4_retest_67, eX4_retest_69, eX4_retest_70, eX4_retest_73, eX4_retest_76, eX4_retest_77, eX4_retest_80, eX4_retest_81, eX4_retest_82, eX4_retest_85, eX4_retest_88, eX4_retest_91, eX4_retest_92, eX4_retest_93, eX4_retest_96, eX4_retest_97, eX4_retest_100, eX4_retest_101, eX4_retest_102, eX4_retest_103, eX4_retest_104, eX4_retest_107, eX4_retest_108, eX4_retest_111, eX4_retest_112, eX4_retest_115, one0, and_false, false_and, gk, gr, gi, gs, rv_some, ret_i, ret_n, Option.bind_some, List.cons_append, List.nil_append, z0, z1, zi, zj, i10, i01, true_or, or_true, eq_self, not_false_eq_true, not_true_eq_false, if_true, if_false, ite_not, Decidable.not_not, and_true, true_and, or_false, false_or, Nat.reduceLeDiff, Nat.reduceMod, Nat.reduceEqDiff, ld0 hD, ld1 hD, ld2 hD, ld3 hD, ld4 hD, ld5 hD, ld6 hD, lb0 (ldB hD), lb1 (ldB hD), lb2 (ldB hD), lb3 (ldB hD), lb4 (ldB hD), lb5 (ldB hD), lb6 (ldB hD), lbr hB hr, lbr2 hB hr, ix40 hr, cl40 hr, rbr3 hR hrR, rbr9 hR hrR, rbr10 hR hrR, rbr11 hR hrR, X1_hasHunter_ev hB qH (by omega), X1_hasReport_ev hB qR (by omega), ho, hq, X4_isOutside_ev, h1, h3, h9, hz, X3_isRetestedBy_ev hB hr hh hv, hb, e1, v1n]
        · have v1n : v1 = 0 := z1'.mpr hR2
          rw [if_pos (show canRt s nR h r from ⟨h3, h9, hb, hR2⟩)]
          cases g with
          | true =>
            rw [if_pos rfl] at h1
            rw [if_pos rfl]
            refine deed hcl hN (hFI.rG (by omega) hh hrR h3) ?_
            obtain ⟨J, m', e, ⟨hRJ, hCJ⟩, hk⟩ := X4_remember_ev (xl := xl) (xs := xs) hD hR hF4 hC
            obtain ⟨K, e4, hRK, hFK⟩ := X1_takeRetest_ev1 (xl := xl) (xs := xs) hB hRJ hFI.1 hh hrR h3
            obtain ⟨g1, g2⟩ := behind (K := K) hCJ hk hFK
            refine ⟨_, m', ?_, ⟨hRK, g1⟩, g2⟩
            simp only [eX4_retest_0, eX4_retest_1, eX4_retest_4, eX4_retest_5, eX4_retest_8, eX4_retest_11, eX4_retest_12, eX4_retest_15, eX4_retest_16, eX4_retest_19, eX4_retest_22, eX4_retest_23, eX4_retest_24, eX4_retest_25, eX4_retest_28, eX4_retest_31, eX4_retest_34, eX4_retest_35, eX4_retest_36, eX4_retest_39, eX4_retest_42, eX4_retest_43, eX4_retest_44, eX4_retest_46, eX4_retest_48, eX4_retest_51, eX4_retest_52, eX4_retest_55, eX4_retest_57, eX4_retest_60, eX4_retest_63, eX4_retest_66, eX4_retest_67, eX4_retest_69, eX4_retest_70, eX4_retest_73, eX4_retest_76, eX4_retest_77, eX4_retest_80, eX4_retest_81, eX4_retest_82, eX4_retest_85, eX4_retest_88, eX4_retest_91, eX4_retest_92, eX4_retest_93, eX4_retest_96, eX4_retest_97, eX4_retest_100, eX4_retest_101, eX4_retest_102, eX4_retest_103, eX4_retest_104, eX4_retest_107, eX4_retest_108, eX4_retest_111, eX4_retest_112, eX4_retest_115, one0, and_false, false_and, gk, gr, gi, gs, rv_some, ret_i, ret_n, Option.bind_some, List.cons_append, List.nil_append, z0, z1, zi, zj, i10, i01, true_or, or_true, eq_self, not_false_eq_true, not_true_eq_false, if_true, if_false, ite_not, Decidable.not_not, and_true, true_and, or_false, false_or, Nat.reduceLeDiff, Nat.reduceMod, Nat.reduceEqDiff, ld0 hD, ld1 hD, ld2 hD, ld3 hD, ld4 hD, ld5 hD, ld6 hD, lb0 (ldB hD), lb1 (ldB hD), lb2 (ldB hD), lb3 (ldB hD), lb4 (ldB hD), lb5 (ldB hD), lb6 (ldB hD), lbr hB hr, lbr2 hB hr, ix40 hr, cl40 hr, rbr3 hR hrR, rbr9 hR hrR, rbr10 hR hrR, rbr11 hR hrR, X1_hasHunter_ev hB qH (by omega), X1_hasReport_ev hB qR (by omega), ho, hq, X4_isOutside_ev, h1, h3, h9, hz, X3_isRetestedBy_ev hB hr hh hv, hb, e1, v1n, e, e4]
          | false =>
            have b0 : ¬ false = true := by decide
            rw [if_neg b0] at h1
            rw [if_neg b0]
            refine deed hcl hN (hFI.rT (by omega) hh hrR h3 h9) ?_
            obtain ⟨J, m', e, ⟨hRJ, hCJ⟩, hk⟩ := X4_remember_ev (xl := xl) (xs := xs) hD hR hF4 hC
            obtain ⟨K, e4, hRK, hFK⟩ := X1_takeRetest_ev0 (xl := xl) (xs := xs) hB hRJ hFI.1 hh hrR h3 h9
            obtain ⟨g1, g2⟩ := behind (K := K) hCJ hk hFK
            refine ⟨_, m', ?_, ⟨hRK, g1⟩, g2⟩
            rw [if_neg b0]
            simp only [eX4_retest_0, eX4_retest_1, eX4_retest_4, eX4_retest_5, eX4_retest_8, eX4_retest_11, eX4_retest_12, eX4_retest_15, eX4_retest_16, eX4_retest_19, eX4_retest_22, eX4_retest_23, eX4_retest_24, eX4_retest_25, eX4_retest_28, eX4_retest_31, eX4_retest_34, eX4_retest_35, eX4_retest_36, eX4_retest_39, eX4_retest_42, eX4_retest_43, eX4_retest_44, eX4_retest_46, eX4_retest_48, eX4_retest_51, eX4_retest_52, eX4_retest_55, eX4_retest_57, eX4_retest_60, eX4_retest_63, eX4_retest_66, eX4_retest_67, eX4_retest_69, eX4_retest_70, eX4_retest_73, eX4_retest_76, eX4_retest_77, eX4_retest_80, eX4_retest_81, eX4_retest_82, eX4_retest_85, eX4_retest_88, eX4_retest_91, eX4_retest_92, eX4_retest_93, eX4_retest_96, eX4_retest_97, eX4_retest_100, eX4_retest_101, eX4_retest_102, eX4_retest_103, eX4_retest_104, eX4_retest_107, eX4_retest_108, eX4_retest_111, eX4_retest_112, eX4_retest_115, one0, and_false, false_and, gk, gr, gi, gs, rv_some, ret_i, ret_n, Option.bind_some, List.cons_append, List.nil_append, z0, z1, zi, zj, i10, i01, true_or, or_true, eq_self, not_false_eq_true, not_true_eq_false, if_true, if_false, ite_not, Decidable.not_not, and_true, true_and, or_false, false_or, Nat.reduceLeDiff, Nat.reduceMod, Nat.reduceEqDiff, ld0 hD, ld1 hD, ld2 hD, ld3 hD, ld4 hD, ld5 hD, ld6 hD, lb0 (ldB hD), lb1 (ldB hD), lb2 (ldB hD), lb3 (ldB hD), lb4 (ldB hD), lb5 (ldB hD), lb6 (ldB hD), lbr hB hr, lbr2 hB hr, ix40 hr, cl40 hr, rbr3 hR hrR, rbr9 hR hrR, rbr10 hR hrR, rbr11 hR hrR, X1_hasHunter_ev hB qH (by omega), X1_hasReport_ev hB qR (by omega), ho, hq, X4_isOutside_ev, h1, h3, h9, hz, X3_isRetestedBy_ev hB hr hh hv, hb, n01, e1, v1n, e, e4]
    · rw [if_neg (show ¬ canRt s nR h r from fun q => h9 q.2.1)]
      show _ = _
      have h9' : rp s r 9 = 1 := hz.resolve_left h9
      simp only [eX4_retest_0, eX4_retest_1, eX4_retest_4, eX4_retest_5, eX4_retest_8, eX4_retest_11, eX4_retest_12, eX4_retest_15, eX4_retest_16, eX4_retest_19, eX4_retest_22, eX4_retest_23, eX4_retest_24, eX4_retest_25, eX4_retest_28, eX4_retest_31, eX4_retest_34, eX4_retest_35, eX4_retest_36, eX4_retest_39, eX4_retest_42, eX4_retest_43, eX4_retest_44, eX4_retest_46, eX4_retest_48, eX4_retest_51, eX4_retest_52, eX4_retest_55, eX4_retest_57, eX4_retest_60, eX4_retest_63, eX4_retest_66, eX4_retest_67, eX4_retest_69, eX4_retest_70, eX4_retest_73, eX4_retest_76, eX4_retest_77, eX4_retest_80, eX4_retest_81, eX4_retest_82, eX4_retest_85, eX4_retest_88, eX4_retest_91, eX4_retest_92, eX4_retest_93, eX4_retest_96, eX4_retest_97, eX4_retest_100, eX4_retest_101, eX4_retest_102, eX4_retest_103, eX4_retest_104, eX4_retest_107, eX4_retest_108, eX4_retest_111, eX4_retest_112, eX4_retest_115, one0, and_false, false_and, gk, gr, gi, gs, rv_some, ret_i, ret_n, Option.bind_some, List.cons_append, List.nil_append, z0, z1, zi, zj, i10, i01, true_or, or_true, eq_self, not_false_eq_true, not_true_eq_false, if_true, if_false, ite_not, Decidable.not_not, and_true, true_and, or_false, false_or, Nat.reduceLeDiff, Nat.reduceMod, Nat.reduceEqDiff, ld0 hD, ld1 hD, ld2 hD, ld3 hD, ld4 hD, ld5 hD, ld6 hD, lb0 (ldB hD), lb1 (ldB hD), lb2 (ldB hD), lb3 (ldB hD), lb4 (ldB hD), lb5 (ldB hD), lb6 (ldB hD), lbr hB hr, lbr2 hB hr, ix40 hr, cl40 hr, rbr3 hR hrR, rbr9 hR hrR, rbr10 hR hrR, rbr11 hR hrR, X1_hasHunter_ev hB qH (by omega), X1_hasReport_ev hB qR (by omega), ho, hq, X4_isOutside_ev, h1, h3, h9', hz]
  · rw [if_neg (show ¬ canRt s nR h r from fun q => h3 q.1)]
    show _ = _
    simp only [eX4_retest_0, eX4_retest_1, eX4_retest_4, eX4_retest_5, eX4_retest_8, eX4_retest_11, eX4_retest_12, eX4_retest_15, eX4_retest_16, eX4_retest_19, eX4_retest_22, eX4_retest_23, eX4_retest_24, eX4_retest_25, eX4_retest_28, eX4_retest_31, eX4_retest_34, eX4_retest_35, eX4_retest_36, eX4_retest_39, eX4_retest_42, eX4_retest_43, eX4_retest_44, eX4_retest_46, eX4_retest_48, eX4_retest_51, eX4_retest_52, eX4_retest_55, eX4_retest_57, eX4_retest_60, eX4_retest_63, eX4_retest_66, eX4_retest_67, eX4_retest_69, eX4_retest_70, eX4_retest_73, eX4_retest_76, eX4_retest_77, eX4_retest_80, eX4_retest_81, eX4_retest_82, eX4_retest_85, eX4_retest_88, eX4_retest_91, eX4_retest_92, eX4_retest_93, eX4_retest_96, eX4_retest_97, eX4_retest_100, eX4_retest_101, eX4_retest_102, eX4_retest_103, eX4_retest_104, eX4_retest_107, eX4_retest_108, eX4_retest_111, eX4_retest_112, eX4_retest_115, one0, and_false, false_and, gk, gr, gi, gs, rv_some, ret_i, ret_n, Option.bind_some, List.cons_append, List.nil_append, z0, z1, zi, zj, i10, i01, true_or, or_true, eq_self, not_false_eq_true, not_true_eq_false, if_true, if_false, ite_not, Decidable.not_not, and_true, true_and, or_false, false_or, Nat.reduceLeDiff, Nat.reduceMod, Nat.reduceEqDiff, ld0 hD, ld1 hD, ld2 hD, ld3 hD, ld4 hD, ld5 hD, ld6 hD, lb0 (ldB hD), lb1 (ldB hD), lb2 (ldB hD), lb3 (ldB hD), lb4 (ldB hD), lb5 (ldB hD), lb6 (ldB hD), lbr hB hr, lbr2 hB hr, ix40 hr, cl40 hr, rbr3 hR hrR, X1_hasHunter_ev hB qH (by omega), X1_hasReport_ev hB qR (by omega), ho, hq, X4_isOutside_ev, h1, h3]
theorem op_retest_out (hcl : Cl F I s nA nH nR n m H) (hFI : FI N s nA nH nR) {v w f : Int32} (ho : out v nH) : pm_ev tb xl xs mX4_retest 0 [some (.ref 0), some (.int v), some (.int w), some (.int f), none] [] (pm_G F I) = some (some (.int (-10001)), pm_G F I) := by
  have hD := hcl.1
  have hR := hcl.2.1
  have hF4 := hcl.2.2.1
  have hC := hcl.2.2.2
  have hB := ldB hD
  have h6 := hFI.1.1.1.2
  have h8 := hFI.1.1.2.1.2
  have h40 := hFI.1.1.2.2.1.2
  have hnA := hFI.1.1.1.1
  have hnH := hFI.1.1.2.1.1
  have hnR := hFI.1.1.2.2.1.1
  have qA : I 1 3 = nI nA := (rbg3 hR).trans hnA
  have qH : I 1 4 = nI nH := (rbg4 hR).trans hnH
  have qR : I 1 5 = nI nR := (rbg5 hR).trans hnR
  have hrb := hFI.rb
  simp only [eX4_retest_0, eX4_retest_1, eX4_retest_4, eX4_retest_5, eX4_retest_8, eX4_retest_11, eX4_retest_12, eX4_retest_15, eX4_retest_16, eX4_retest_19, eX4_retest_22, eX4_retest_23, eX4_retest_24, eX4_retest_25, eX4_retest_28, eX4_retest_31, eX4_retest_34, eX4_retest_35, eX4_retest_36, eX4_retest_39, eX4_retest_42, eX4_retest_43, eX4_retest_44, eX4_retest_46, eX4_retest_48, eX4_retest_51, eX4_retest_52, eX4_retest_55, eX4_retest_57, eX4_retest_60, eX4_retest_63, eX4_retest_66, eX4_retest_67, eX4_retest_69, eX4_retest_70, eX4_retest_73, eX4_retest_76, eX4_retest_77, eX4_retest_80, eX4_retest_81, eX4_retest_82, eX4_retest_85, eX4_retest_88, eX4_retest_91, eX4_retest_92, eX4_retest_93, eX4_retest_96, eX4_retest_97, eX4_retest_100, eX4_retest_101, eX4_retest_102, eX4_retest_103, eX4_retest_104, eX4_retest_107, eX4_retest_108, eX4_retest_111, eX4_retest_112, eX4_retest_115, one0, and_false, false_and, gk, gr, gi, gs, rv_some, ret_i, ret_n, Option.bind_some, List.cons_append, List.nil_append, z0, z1, zi, zj, i10, i01, true_or, or_true, eq_self, not_false_eq_true, not_true_eq_false, if_true, if_false, ite_not, Decidable.not_not, and_true, true_and, or_false, false_or, Nat.reduceLeDiff, Nat.reduceMod, Nat.reduceEqDiff, ld0 hD, ld1 hD, ld2 hD, ld3 hD, ld4 hD, ld5 hD, ld6 hD, lb0 (ldB hD), lb1 (ldB hD), lb2 (ldB hD), lb3 (ldB hD), lb4 (ldB hD), lb5 (ldB hD), lb6 (ldB hD), X1_hasHunter_ev hB qH (by omega), ho]
def o_pass (s : St) (nA nH nR : Nat) (d k : Nat) : Int32 × Option (St × Nat × Nat × Nat) := if 9999 < d + k then (-10002, none) else ((lp (qG nA nR) 0 ((d + k) / 90 - d / 90) (s, 0)).2, some (sG (lp (qG nA nR) 0 ((d + k) / 90 - d / 90) (s, 0)).1 0 (nI (d + k)), nA, nH, nR))
theorem op_pass (hcl : Cl F I s nA nH nR n m H) (hFI : FI N s nA nH nR) (hN : N < 400) {d k : Nat} (hd0 : gp s 0 = nI d) (hd : d < 10000) (hk1 : 1 ≤ k) (hk2 : k ≤ 400) : Ans F N I s n H (fun M => pm_ev tb xl xs mX4_pass 0 [some (.ref 0), some (.int (nI k)), none, none, none] [] M) (o_pass s nA nH nR d k) := by
  have hD := hcl.1
  have hR := hcl.2.1
  have hF4 := hcl.2.2.1
  have hC := hcl.2.2.2
  have hB := ldB hD
  have h6 := hFI.1.1.1.2
  have h8 := hFI.1.1.2.1.2
  have h40 := hFI.1.1.2.2.1.2
  have hnA := hFI.1.1.1.1
  have hnH := hFI.1.1.2.1.1
  have hnR := hFI.1.1.2.2.1.1
  have qA : I 1 3 = nI nA := (rbg3 hR).trans hnA
  have qH : I 1 4 = nI nH := (rbg4 hR).trans hnH
  have qR : I 1 5 = nI nR := (rbg5 hR).trans hnR
  have hrb := hFI.rb
  have h1 : ¬ (nI k < 1 ∨ 400 < nI k) := by
    rintro (q | q)
    · exact nI_nlt (a := k) (b := 1) hk1 (by omega) q
    · exact nI_nlt (a := 400) (b := k) hk2 (by omega) q
  have qD : I 1 6 = nI d := (rbg6 hR).trans hd0
  have c1 : ((9999 : Int32) < nI (d + k)) = (9999 < d + k) := lt_iff (i := 9999) (by omega) (by omega)
  unfold o_pass
  by_cases h2 : 9999 < d + k
  · rw [if_pos h2]
    show _ = _
    simp only [eX4_pass_0, eX4_pass_1, eX4_pass_2, eX4_pass_5, eX4_pass_8, eX4_pass_11, eX4_pass_14, eX4_pass_15, eX4_pass_16, eX4_pass_19, eX4_pass_22, eX4_pass_23, eX4_pass_24, eX4_pass_27, eX4_pass_30, eX4_pass_33, eX4_pass_34, eX4_pass_35, eX4_pass_38, eX4_pass_39, eX4_pass_42, eX4_pass_45, eX4_pass_46, eX4_pass_47, eX4_pass_49, eX4_pass_50, eX4_pass_51, eX4_pass_54, eX4_pass_57, eX4_pass_59, eX4_pass_60, eX4_pass_61, eX4_pass_62, eX4_pass_63, eX4_pass_66, eX4_pass_66_i, eX4_pass_67, eX4_pass_70, eX4_pass_71, eX4_pass_72, eX4_pass_75, eX4_pass_76, eX4_pass_77, eX4_pass_78, eX4_pass_82, eX4_pass_83, eX4_pass_86, eX4_pass_87, eX4_pass_88, eX4_pass_91, eX4_pass_94, eX4_pass_95, eX4_pass_96, eX4_pass_99, eX4_pass_102, eX4_pass_103, one0, and_false, false_and, gk, gr, gi, gs, rv_some, ret_i, ret_n, Option.bind_some, List.cons_append, List.nil_append, z0, z1, zi, zj, i10, i01, true_or, or_true, eq_self, not_false_eq_true, not_true_eq_false, if_true, if_false, ite_not, Decidable.not_not, and_true, true_and, or_false, false_or, Nat.reduceLeDiff, Nat.reduceMod, Nat.reduceEqDiff, ld0 hD, ld1 hD, ld2 hD, ld3 hD, ld4 hD, ld5 hD, ld6 hD, lb0 (ldB hD), lb1 (ldB hD), lb2 (ldB hD), lb3 (ldB hD), lb4 (ldB hD), lb5 (ldB hD), lb6 (ldB hD), X4_isOutside_ev, h1, qD, nI_add, c1, h2]
  · rw [if_neg h2]
    have hdk : d + k < 10000 := by omega
    have hT := hFI.1
    have ed1 : nI (d + k) / 90 = nI ((d + k) / 90) := pk_div (d := 90) (by omega) (by omega) (by omega)
    have ed2 : nI d / 90 = nI (d / 90) := pk_div (d := 90) (by omega) (by omega) (by omega)
    have ed3 : nI ((d + k) / 90) - nI (d / 90) = nI ((d + k) / 90 - d / 90) := pk_sub (by omega)
    have hq5 : (d + k) / 90 - d / 90 < 1000 := by omega
    refine deed hcl hN (hFI.pass (by omega) hd0 hk2 hdk) ?_
    obtain ⟨J, m', e, ⟨hRJ, hCJ⟩, hk⟩ := X4_remember_ev (xl := xl) (xs := xs) hD hR hF4 hC
    have jD : J 1 6 = nI d := (rbg6 hRJ).trans hd0
    generalize (d + k) / 90 - d / 90 = q at ed3 hq5
    have key : ∀ n i (x : St × Int32) (K : Nat → Nat → Int32), i + n = q → RB K 1 x.1 nA nH nR → Iv x.1 nA nH nR → ∃ L, pm_ev tb xl xs mX4_pass 80 [some (.ref 0), some (.int (nI k)), some (.int (nI q)), some (.int x.2), some (.int (nI i))] [] (pm_G F K) = some (some (.int (lp (qG nA nR) i n x).2), pm_G F L) ∧ RB L 1 (lp (qG nA nR) i n x).1 nA nH nR ∧ Fr K L 1 := by
      intro n
      induction n with
      | zero =>
        intro i x K hi hRK hIx
        refine ⟨K, ?_, hRK, Fr.rf⟩
        rw [eX4_pass_80]
        simp only [eX4_pass_0, eX4_pass_1, eX4_pass_2, eX4_pass_5, eX4_pass_8, eX4_pass_11, eX4_pass_14, eX4_pass_15, eX4_pass_16, eX4_pass_19, eX4_pass_22, eX4_pass_23, eX4_pass_24, eX4_pass_27, eX4_pass_30, eX4_pass_33, eX4_pass_34, eX4_pass_35, eX4_pass_38, eX4_pass_39, eX4_pass_42, eX4_pass_45, eX4_pass_46, eX4_pass_47, eX4_pass_49, eX4_pass_50, eX4_pass_51, eX4_pass_54, eX4_pass_57, eX4_pass_59, eX4_pass_60, eX4_pass_61, eX4_pass_62, eX4_pass_63, eX4_pass_66, eX4_pass_66_i, eX4_pass_67, eX4_pass_70, eX4_pass_71, eX4_pass_72, eX4_pass_75, eX4_pass_76, eX4_pass_77, eX4_pass_78, eX4_pass_82, eX4_pass_83, eX4_pass_86, eX4_pass_87, eX4_pass_88, eX4_pass_91, eX4_pass_94, eX4_pass_95, eX4_pass_96, eX4_pass_99, eX4_pass_102, eX4_pass_103, one0, and_false, false_and, gk, gr, gi, gs, rv_some, ret_i, ret_n, Option.bind_some, List.cons_append, List.nil_append, z0, z1, zi, zj, i10, i01, true_or, or_true, eq_self, not_false_eq_true, not_true_eq_false, if_true, if_false, ite_not, Decidable.not_not, and_true, true_and, or_false, false_or, Nat.reduceLeDiff, Nat.reduceMod, Nat.reduceEqDiff, lt_f (show q ≤ i by omega) (show i < 2147483648 by omega), lp]
      | succ n ih =>
        intro i x K hi hRK hIx
        obtain ⟨L, e3, hRL, hFL⟩ := X1_beginQuarter_ev (xl := xl) (xs := xs) hB hRK hIx
        obtain ⟨P, e4, hRP, hFP⟩ := ih (i + 1) (qG nA nR i x) L (by omega) hRL hIx.begs
        refine ⟨P, ?_, hRP, hFL.tr hFP⟩
        rw [eX4_pass_80]
        simp only [eX4_pass_0, eX4_pass_1, eX4_pass_2, eX4_pass_5, eX4_pass_8, eX4_pass_11, eX4_pass_14, eX4_pass_15, eX4_pass_16, eX4_pass_19, eX4_pass_22, eX4_pass_23, eX4_pass_24, eX4_pass_27, eX4_pass_30, eX4_pass_33, eX4_pass_34, eX4_pass_35, eX4_pass_38, eX4_pass_39, eX4_pass_42, eX4_pass_45, eX4_pass_46, eX4_pass_47, eX4_pass_49, eX4_pass_50, eX4_pass_51, eX4_pass_54, eX4_pass_57, eX4_pass_59, eX4_pass_60, eX4_pass_61, eX4_pass_62, eX4_pass_63, eX4_pass_66, eX4_pass_66_i, eX4_pass_67, eX4_pass_70, eX4_pass_71, eX4_pass_72, eX4_pass_75, eX4_pass_76, eX4_pass_77, eX4_pass_78, eX4_pass_82, eX4_pass_83, eX4_pass_86, eX4_pass_87, eX4_pass_88, eX4_pass_91, eX4_pass_94, eX4_pass_95, eX4_pass_96, eX4_pass_99, eX4_pass_102, eX4_pass_103, one0, and_false, false_and, gk, gr, gi, gs, rv_some, ret_i, ret_n, Option.bind_some, List.cons_append, List.nil_append, z0, z1, zi, zj, i10, i01, true_or, or_true, eq_self, not_false_eq_true, not_true_eq_false, if_true, if_false, ite_not, Decidable.not_not, and_true, true_and, or_false, false_or, Nat.reduceLeDiff, Nat.reduceMod, Nat.reduceEqDiff, ld0 hD, ld1 hD, ld2 hD, ld3 hD, ld4 hD, ld5 hD, ld6 hD, lb0 (ldB hD), lb1 (ldB hD), lb2 (ldB hD), lb3 (ldB hD), lb4 (ldB hD), lb5 (ldB hD), lb6 (ldB hD), lt_t (show i < q by omega) (show q < 2147483648 by omega), e3, nI_1]
        exact e4
    have hk1 : 1 ≤ 1 ∧ 1 < 1 + 58 := by omega
    obtain ⟨L, e3, hRL, hFL⟩ := key q 0 (sG s 0 (nI (d + k)), 0) (pm_u2 J 1 6 (nI (d + k))) (by omega) (hRJ.wg6 h6 h8 h40) (hT.wG (by decide) (by decide) (by decide) (by decide))
    obtain ⟨g1, g2⟩ := behind (K := L) hCJ hk ((Fr.rf.u2 hk1).tr hFL)
    rw [d_qs] at e3 hRL
    refine ⟨L, m', ?_, ⟨hRL, g1⟩, g2⟩
    simp only [eX4_pass_0, eX4_pass_1, eX4_pass_2, eX4_pass_5, eX4_pass_8, eX4_pass_11, eX4_pass_14, eX4_pass_15, eX4_pass_16, eX4_pass_19, eX4_pass_22, eX4_pass_23, eX4_pass_24, eX4_pass_27, eX4_pass_30, eX4_pass_33, eX4_pass_34, eX4_pass_35, eX4_pass_38, eX4_pass_39, eX4_pass_42, eX4_pass_45, eX4_pass_46, eX4_pass_47, eX4_pass_49, eX4_pass_50, eX4_pass_51, eX4_pass_54, eX4_pass_57, eX4_pass_59, eX4_pass_60, eX4_pass_61, eX4_pass_62, eX4_pass_63, eX4_pass_66, eX4_pass_66_i, eX4_pass_67, eX4_pass_70, eX4_pass_71, eX4_pass_72, eX4_pass_75, eX4_pass_76, eX4_pass_77, eX4_pass_78, eX4_pass_82, eX4_pass_83, eX4_pass_86, eX4_pass_87, eX4_pass_88, eX4_pass_91, eX4_pass_94, eX4_pass_95, eX4_pass_96, eX4_pass_99, eX4_pass_102, eX4_pass_103, one0, and_false, false_and, gk, gr, gi, gs, rv_some, ret_i, ret_n, Option.bind_some, List.cons_append, List.nil_append, z0, z1, zi, zj, i10, i01, true_or, or_true, eq_self, not_false_eq_true, not_true_eq_false, if_true, if_false, ite_not, Decidable.not_not, and_true, true_and, or_false, false_or, Nat.reduceLeDiff, Nat.reduceMod, Nat.reduceEqDiff, ld0 hD, ld1 hD, ld2 hD, ld3 hD, ld4 hD, ld5 hD, ld6 hD, lb0 (ldB hD), lb1 (ldB hD), lb2 (ldB hD), lb3 (ldB hD), lb4 (ldB hD), lb5 (ldB hD), lb6 (ldB hD), X4_isOutside_ev, h1, qD, jD, nI_add, c1, h2, e, d90, ed1, ed2, ed3]
    exact e3
theorem op_pass_out (hcl : Cl F I s nA nH nR n m H) {v : Int32} (h1 : v < 1 ∨ 400 < v) : pm_ev tb xl xs mX4_pass 0 [some (.ref 0), some (.int v), none, none, none] [] (pm_G F I) = some (some (.int (-10001)), pm_G F I) := by
  simp only [eX4_pass_0, eX4_pass_1, eX4_pass_2, eX4_pass_5, eX4_pass_8, eX4_pass_11, eX4_pass_14, eX4_pass_15, eX4_pass_16, eX4_pass_19, eX4_pass_22, eX4_pass_23, eX4_pass_24, eX4_pass_27, eX4_pass_30, eX4_pass_33, eX4_pass_34, eX4_pass_35, eX4_pass_38, eX4_pass_39, eX4_pass_42, eX4_pass_45, eX4_pass_46, eX4_pass_47, eX4_pass_49, eX4_pass_50, eX4_pass_51, eX4_pass_54, eX4_pass_57, eX4_pass_59, eX4_pass_60, eX4_pass_61, eX4_pass_62, eX4_pass_63, eX4_pass_66, eX4_pass_66_i, eX4_pass_67, eX4_pass_70, eX4_pass_71, eX4_pass_72, eX4_pass_75, eX4_pass_76, eX4_pass_77, eX4_pass_78, eX4_pass_82, eX4_pass_83, eX4_pass_86, eX4_pass_87, eX4_pass_88, eX4_pass_91, eX4_pass_94, eX4_pass_95, eX4_pass_96, eX4_pass_99, eX4_pass_102, eX4_pass_103, one0, and_false, false_and, gk, gr, gi, gs, rv_some, ret_i, ret_n, Option.bind_some, List.cons_append, List.nil_append, z0, z1, zi, zj, i10, i01, true_or, or_true, eq_self, not_false_eq_true, not_true_eq_false, if_true, if_false, ite_not, Decidable.not_not, and_true, true_and, or_false, false_or, Nat.reduceLeDiff, Nat.reduceMod, Nat.reduceEqDiff, X4_isOutside_ev, h1]
end OPS
