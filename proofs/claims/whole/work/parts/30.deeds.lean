/-! the deeds, one by one -/
section DEEDS
variable {xl : Nat} {xs : Nat → Int32} {F : pm_F} {I : Nat → Nat → Int32} {N : Nat}
theorem op_fill (hD : LD F) (hM : LM F 583) (hF : Full N I) (v : Int32) : Step F N I (fun M => pm_ev tb xl xs mX4_fill 0 [some (.ref 0), some (.int v)] [] M) (fun M => pm_ev tb xl xs mX5_fill 0 [some (.ref 583), some (.int v)] [] M) := by
  have hFull := hF
  obtain ⟨n, m, H, nA, nH, nR, hR, hFI, hC, hMH⟩ := hF
  generalize hs : I 584 = s at hR hFI
  have hB := ldB hD
  have h6 := hFI.1.1.1.2
  have h8 := hFI.1.1.2.1.2
  have h40 := hFI.1.1.2.2.1.2
  have hnA := hFI.1.1.1.1
  have hnH := hFI.1.1.2.1.1
  have hnR := hFI.1.1.2.2.1.1
  have hn8 := hC.2.2.2.1
  have qA : I 1 3 = nI nA := (rbg3 hR).trans hnA
  have qH : I 1 4 = nI nH := (rbg4 hR).trans hnH
  have qR : I 1 5 = nI nR := (rbg5 hR).trans hnR
  have eI : row I 584 s = I := by rw [← hs]; exact row_self
  have hrb := hFI.rb
  by_cases h1 : v < 1 ∨ 100000 < v
  · refine same (v := -10001) hFull ?_ ?_
    · simp only [eX4_fill_0, eX4_fill_1, eX4_fill_2, eX4_fill_4, eX4_fill_7, eX4_fill_10, eX4_fill_13, eX4_fill_14, eX4_fill_15, eX4_fill_18, eX4_fill_21, eX4_fill_22, eX4_fill_23, eX4_fill_25, eX4_fill_28, eX4_fill_31, eX4_fill_32, eX4_fill_33, eX4_fill_36, eX4_fill_37, eX4_fill_40, eX4_fill_41, eX4_fill_44, eX4_fill_45, eX4_fill_46, eX4_fill_49, eX4_fill_50, eX4_fill_53, eX4_fill_56, one0, and_false, false_and, gk, gr, gi, gs, rv_some, ret_i, ret_n, Option.bind_some, List.cons_append, List.nil_append, z0, z1, zi, zj, i10, i01, true_or, or_true, eq_self, not_false_eq_true, not_true_eq_false, if_true, if_false, ite_not, Decidable.not_not, and_true, true_and, or_false, false_or, Nat.reduceLeDiff, Nat.reduceMod, Nat.reduceEqDiff, ld0 hD, ld1 hD, ld2 hD, ld3 hD, ld4 hD, ld5 hD, ld6 hD, lb0 (ldB hD), lb1 (ldB hD), lb2 (ldB hD), lb3 (ldB hD), lb4 (ldB hD), lb5 (ldB hD), lb6 (ldB hD), X4_isOutside_ev, h1]
    · simp only [eX5_fill_0, eX5_fill_1, eX5_fill_2, eX5_fill_4, eX5_fill_7, eX5_fill_10, eX5_fill_13, eX5_fill_14, eX5_fill_15, eX5_fill_18, eX5_fill_19, eX5_fill_20, eX5_fill_21, eX5_fill_22, eX5_fill_24, eX5_fill_27, eX5_fill_30, eX5_fill_31, eX5_fill_32, eX5_fill_35, eX5_fill_36, eX5_fill_39, eX5_fill_40, eX5_fill_41, eX5_fill_42, eX5_fill_43, eX5_fill_44, eX5_fill_45, eX5_fill_46, eX5_fill_49, eX5_fill_50, eX5_fill_51, one0, gk, gr, gj, gw, rv_some, ret_i, ret_n, Option.bind_some, List.cons_append, List.nil_append, z0, z1, zi, zj, i10, i01, row_s, row_row, true_or, or_true, eq_self, not_false_eq_true, not_true_eq_false, if_true, if_false, ite_not, Decidable.not_not, and_true, true_and, or_false, false_or, X5_in_ev, h1]
  · by_cases h2 : 1000000 < gp s 1 + v
    · refine same (v := -10002) hFull ?_ ?_
      · simp only [eX4_fill_0, eX4_fill_1, eX4_fill_2, eX4_fill_4, eX4_fill_7, eX4_fill_10, eX4_fill_13, eX4_fill_14, eX4_fill_15, eX4_fill_18, eX4_fill_21, eX4_fill_22, eX4_fill_23, eX4_fill_25, eX4_fill_28, eX4_fill_31, eX4_fill_32, eX4_fill_33, eX4_fill_36, eX4_fill_37, eX4_fill_40, eX4_fill_41, eX4_fill_44, eX4_fill_45, eX4_fill_46, eX4_fill_49, eX4_fill_50, eX4_fill_53, eX4_fill_56, one0, and_false, false_and, gk, gr, gi, gs, rv_some, ret_i, ret_n, Option.bind_some, List.cons_append, List.nil_append, z0, z1, zi, zj, i10, i01, true_or, or_true, eq_self, not_false_eq_true, not_true_eq_false, if_true, if_false, ite_not, Decidable.not_not, and_true, true_and, or_false, false_or, Nat.reduceLeDiff, Nat.reduceMod, Nat.reduceEqDiff, ld0 hD, ld1 hD, ld2 hD, ld3 hD, ld4 hD, ld5 hD, ld6 hD, lb0 (ldB hD), lb1 (ldB hD), lb2 (ldB hD), lb3 (ldB hD), lb4 (ldB hD), lb5 (ldB hD), lb6 (ldB hD), rbg3 hR, rbg4 hR, rbg5 hR, rbg6 hR, rbg7 hR, rbg8 hR, rbg9 hR, rbg10 hR, rbg11 hR, X4_isOutside_ev, h1, h2]
      · rw [← eI]
        simp only [eX5_fill_0, eX5_fill_1, eX5_fill_2, eX5_fill_4, eX5_fill_7, eX5_fill_10, eX5_fill_13, eX5_fill_14, eX5_fill_15, eX5_fill_18, eX5_fill_19, eX5_fill_20, eX5_fill_21, eX5_fill_22, eX5_fill_24, eX5_fill_27, eX5_fill_30, eX5_fill_31, eX5_fill_32, eX5_fill_35, eX5_fill_36, eX5_fill_39, eX5_fill_40, eX5_fill_41, eX5_fill_42, eX5_fill_43, eX5_fill_44, eX5_fill_45, eX5_fill_46, eX5_fill_49, eX5_fill_50, eX5_fill_51, one0, gk, gr, gj, gw, rv_some, ret_i, ret_n, Option.bind_some, List.cons_append, List.nil_append, z0, z1, zi, zj, i10, i01, row_s, row_row, true_or, or_true, eq_self, not_false_eq_true, not_true_eq_false, if_true, if_false, ite_not, Decidable.not_not, and_true, true_and, or_false, false_or, lm0 hM, lm1 hM, lm5 hM, ixG0, ixG1, ixG2, ixG3, ixG4, ixG5, ixG6, ixG7, ixG8, clG0, clG1, clG2, clG3, clG4, clG5, clG6, clG7, clG8, rdG0, rdG1, rdG2, rdG3, rdG4, rdG5, rdG6, rdG7, rdG8, wrG0, wrG1, wrG2, wrG3, wrG4, wrG5, wrG6, wrG7, wrG8, X5_in_ev, h1, h2]
    · refine deed (v := gp s 1 + v) (s' := sG s 1 (gp s 1 + v)) (nA' := nA) (nH' := nH) (nR' := nR) hs hR hFI hC hMH ?_ ?_ ?_
      · obtain ⟨w, rfl, hw1, hw2⟩ := rng_of (a := 1) (b := 100000) (by omega) (by omega) h1
        obtain ⟨x, hx, hgx⟩ := vp_in_of hFI.2.1.2.1 (by omega)
        rw [hgx, nI_add] at h2 ⊢
        have h3 : ¬ 1000000 < x + w := by
          rw [show ((1000000 : Int32) < nI (x + w)) = (1000000 < x + w) from lt_iff (i := 1000000) (by omega) (by omega)] at h2
          exact h2
        refine ⟨hFI.1.wG (by decide) (by decide) (by decide) (by decide), hFI.2.of ?_ (fun a ha j hj => ap_sG (by decide)) (fun h hh j hj => hp_sG (by decide)) h8 (by omega) (by omega)⟩
        simp only [gp_sG, Nat.reduceEqDiff, if_true, if_false]
        exact ⟨hFI.2.1.1, in_n (by omega) (by omega), hFI.2.1.2.2⟩
      · obtain ⟨J, m', e, ⟨hRJ, hCJ⟩, hk⟩ := X4_remember_ev (xl := xl) (xs := xs) hD hR hFI hC
        obtain ⟨g1, g2⟩ := behind (K := pm_u2 J 1 7 (gp s 1 + v)) hCJ hk (Fr.rf.u2 (by omega))
        refine ⟨_, m', ?_, ⟨hRJ.wg7 h6 h8 h40, g1⟩, g2⟩
        simp only [eX4_fill_0, eX4_fill_1, eX4_fill_2, eX4_fill_4, eX4_fill_7, eX4_fill_10, eX4_fill_13, eX4_fill_14, eX4_fill_15, eX4_fill_18, eX4_fill_21, eX4_fill_22, eX4_fill_23, eX4_fill_25, eX4_fill_28, eX4_fill_31, eX4_fill_32, eX4_fill_33, eX4_fill_36, eX4_fill_37, eX4_fill_40, eX4_fill_41, eX4_fill_44, eX4_fill_45, eX4_fill_46, eX4_fill_49, eX4_fill_50, eX4_fill_53, eX4_fill_56, one0, and_false, false_and, gk, gr, gi, gs, rv_some, ret_i, ret_n, Option.bind_some, List.cons_append, List.nil_append, z0, z1, zi, zj, i10, i01, true_or, or_true, eq_self, not_false_eq_true, not_true_eq_false, if_true, if_false, ite_not, Decidable.not_not, and_true, true_and, or_false, false_or, Nat.reduceLeDiff, Nat.reduceMod, Nat.reduceEqDiff, ld0 hD, ld1 hD, ld2 hD, ld3 hD, ld4 hD, ld5 hD, ld6 hD, lb0 (ldB hD), lb1 (ldB hD), lb2 (ldB hD), lb3 (ldB hD), lb4 (ldB hD), lb5 (ldB hD), lb6 (ldB hD), rbg3 hR, rbg4 hR, rbg5 hR, rbg6 hR, rbg7 hR, rbg8 hR, rbg9 hR, rbg10 hR, rbg11 hR, X4_isOutside_ev, h1, h2, e, rbg7 hRJ, u2_r]
      · intro J hJ; obtain ⟨J', e, hJ', hk⟩ := X5_keeps_ev (xl := xl) (xs := xs) (s := s) hM hJ hn8
        refine ⟨J', ?_, hJ', hk⟩
        simp only [eX5_fill_0, eX5_fill_1, eX5_fill_2, eX5_fill_4, eX5_fill_7, eX5_fill_10, eX5_fill_13, eX5_fill_14, eX5_fill_15, eX5_fill_18, eX5_fill_19, eX5_fill_20, eX5_fill_21, eX5_fill_22, eX5_fill_24, eX5_fill_27, eX5_fill_30, eX5_fill_31, eX5_fill_32, eX5_fill_35, eX5_fill_36, eX5_fill_39, eX5_fill_40, eX5_fill_41, eX5_fill_42, eX5_fill_43, eX5_fill_44, eX5_fill_45, eX5_fill_46, eX5_fill_49, eX5_fill_50, eX5_fill_51, one0, gk, gr, gj, gw, rv_some, ret_i, ret_n, Option.bind_some, List.cons_append, List.nil_append, z0, z1, zi, zj, i10, i01, row_s, row_row, true_or, or_true, eq_self, not_false_eq_true, not_true_eq_false, if_true, if_false, ite_not, Decidable.not_not, and_true, true_and, or_false, false_or, lm0 hM, lm1 hM, lm5 hM, ixG0, ixG1, ixG2, ixG3, ixG4, ixG5, ixG6, ixG7, ixG8, clG0, clG1, clG2, clG3, clG4, clG5, clG6, clG7, clG8, rdG0, rdG1, rdG2, rdG3, rdG4, rdG5, rdG6, rdG7, rdG8, wrG0, wrG1, wrG2, wrG3, wrG4, wrG5, wrG6, wrG7, wrG8, X5_in_ev, h1, h2, e, gp_sG, gp_sA, gp_sH, gp_sR, ap_sG, ap_sA, ap_sH, ap_sR, hp_sG, hp_sA, hp_sH, hp_sR, rp_sG, rp_sA, rp_sH, rp_sR, Nat.reduceLT, Nat.reduceEqDiff]
theorem op_setRate (hD : LD F) (hM : LM F 583) (hF : Full N I) (v : Int32) : Step F N I (fun M => pm_ev tb xl xs mX4_setRate 0 [some (.ref 0), some (.int v), none] [] M) (fun M => pm_ev tb xl xs mX5_setRate 0 [some (.ref 583), some (.int v)] [] M) := by
  have hFull := hF
  obtain ⟨n, m, H, nA, nH, nR, hR, hFI, hC, hMH⟩ := hF
  generalize hs : I 584 = s at hR hFI
  have hB := ldB hD
  have h6 := hFI.1.1.1.2
  have h8 := hFI.1.1.2.1.2
  have h40 := hFI.1.1.2.2.1.2
  have hnA := hFI.1.1.1.1
  have hnH := hFI.1.1.2.1.1
  have hnR := hFI.1.1.2.2.1.1
  have hn8 := hC.2.2.2.1
  have qA : I 1 3 = nI nA := (rbg3 hR).trans hnA
  have qH : I 1 4 = nI nH := (rbg4 hR).trans hnH
  have qR : I 1 5 = nI nR := (rbg5 hR).trans hnR
  have eI : row I 584 s = I := by rw [← hs]; exact row_self
  have hrb := hFI.rb
  by_cases h1 : v < 50 ∨ 200 < v
  · refine same (v := -10001) hFull ?_ ?_
    · simp only [eX4_setRate_0, eX4_setRate_1, eX4_setRate_3, eX4_setRate_6, eX4_setRate_9, eX4_setRate_12, eX4_setRate_15, eX4_setRate_16, eX4_setRate_17, eX4_setRate_20, eX4_setRate_21, eX4_setRate_24, eX4_setRate_27, eX4_setRate_28, eX4_setRate_29, eX4_setRate_32, eX4_setRate_33, eX4_setRate_36, eX4_setRate_37, one0, and_false, false_and, gk, gr, gi, gs, rv_some, ret_i, ret_n, Option.bind_some, List.cons_append, List.nil_append, z0, z1, zi, zj, i10, i01, true_or, or_true, eq_self, not_false_eq_true, not_true_eq_false, if_true, if_false, ite_not, Decidable.not_not, and_true, true_and, or_false, false_or, Nat.reduceLeDiff, Nat.reduceMod, Nat.reduceEqDiff, ld0 hD, ld1 hD, ld2 hD, ld3 hD, ld4 hD, ld5 hD, ld6 hD, lb0 (ldB hD), lb1 (ldB hD), lb2 (ldB hD), lb3 (ldB hD), lb4 (ldB hD), lb5 (ldB hD), lb6 (ldB hD), X4_isOutside_ev, h1]
    · simp only [eX5_setRate_0, eX5_setRate_1, eX5_setRate_2, eX5_setRate_3, eX5_setRate_5, eX5_setRate_8, eX5_setRate_11, eX5_sets_0, eX5_sets_1, eX5_sets_2, eX5_sets_4, eX5_sets_7, eX5_sets_10, eX5_sets_13, eX5_sets_14, eX5_sets_15, eX5_sets_18, eX5_sets_19, eX5_sets_22, eX5_sets_23, eX5_sets_24, eX5_sets_26, eX5_sets_27, eX5_sets_30, eX5_sets_31, eX5_sets_32, eX5_sets_33, eX5_sets_35, one0, gk, gr, gj, gw, rv_some, ret_i, ret_n, Option.bind_some, List.cons_append, List.nil_append, z0, z1, zi, zj, i10, i01, row_s, row_row, true_or, or_true, eq_self, not_false_eq_true, not_true_eq_false, if_true, if_false, ite_not, Decidable.not_not, and_true, true_and, or_false, false_or, lm0 hM, lm1 hM, lm5 hM, X5_in_ev, h1]
  · refine deed (v := gp s 2) (s' := sG s 2 v) (nA' := nA) (nH' := nH) (nR' := nR) hs hR hFI hC hMH ?_ ?_ ?_
    · obtain ⟨w, rfl, hw1, hw2⟩ := rng_of (a := 50) (b := 200) (by omega) (by omega) h1
      refine ⟨hFI.1.wG (by decide) (by decide) (by decide) (by decide), hFI.2.of ?_ (fun a ha j hj => ap_sG (by decide)) (fun h hh j hj => hp_sG (by decide)) h8 (by omega) (by omega)⟩
      simp only [gp_sG, Nat.reduceEqDiff, if_true, if_false]
      exact ⟨hFI.2.1.1, hFI.2.1.2.1, ⟨in_n (by omega) (by omega), nI_nlt (a := w) (b := 50) hw1 (by omega)⟩, hFI.2.1.2.2.2⟩
    · obtain ⟨J, m', e, ⟨hRJ, hCJ⟩, hk⟩ := X4_remember_ev (xl := xl) (xs := xs) hD hR hFI hC
      obtain ⟨g1, g2⟩ := behind (K := pm_u2 J 1 8 v) hCJ hk (Fr.rf.u2 (by omega))
      refine ⟨_, m', ?_, ⟨hRJ.wg8 h6 h8 h40, g1⟩, g2⟩
      simp only [eX4_setRate_0, eX4_setRate_1, eX4_setRate_3, eX4_setRate_6, eX4_setRate_9, eX4_setRate_12, eX4_setRate_15, eX4_setRate_16, eX4_setRate_17, eX4_setRate_20, eX4_setRate_21, eX4_setRate_24, eX4_setRate_27, eX4_setRate_28, eX4_setRate_29, eX4_setRate_32, eX4_setRate_33, eX4_setRate_36, eX4_setRate_37, one0, and_false, false_and, gk, gr, gi, gs, rv_some, ret_i, ret_n, Option.bind_some, List.cons_append, List.nil_append, z0, z1, zi, zj, i10, i01, true_or, or_true, eq_self, not_false_eq_true, not_true_eq_false, if_true, if_false, ite_not, Decidable.not_not, and_true, true_and, or_false, false_or, Nat.reduceLeDiff, Nat.reduceMod, Nat.reduceEqDiff, ld0 hD, ld1 hD, ld2 hD, ld3 hD, ld4 hD, ld5 hD, ld6 hD, lb0 (ldB hD), lb1 (ldB hD), lb2 (ldB hD), lb3 (ldB hD), lb4 (ldB hD), lb5 (ldB hD), lb6 (ldB hD), rbg3 hR, rbg4 hR, rbg5 hR, rbg6 hR, rbg7 hR, rbg8 hR, rbg9 hR, rbg10 hR, rbg11 hR, X4_isOutside_ev, h1, e, rbg8 hRJ, u2_r]
    · intro J hJ; obtain ⟨J', e, hJ', hk⟩ := X5_keeps_ev (xl := xl) (xs := xs) (s := s) hM hJ hn8
      refine ⟨J', ?_, hJ', hk⟩
      simp only [eX5_setRate_0, eX5_setRate_1, eX5_setRate_2, eX5_setRate_3, eX5_setRate_5, eX5_setRate_8, eX5_setRate_11, eX5_sets_0, eX5_sets_1, eX5_sets_2, eX5_sets_4, eX5_sets_7, eX5_sets_10, eX5_sets_13, eX5_sets_14, eX5_sets_15, eX5_sets_18, eX5_sets_19, eX5_sets_22, eX5_sets_23, eX5_sets_24, eX5_sets_26, eX5_sets_27, eX5_sets_30, eX5_sets_31, eX5_sets_32, eX5_sets_33, eX5_sets_35, one0, gk, gr, gj, gw, rv_some, ret_i, ret_n, Option.bind_some, List.cons_append, List.nil_append, z0, z1, zi, zj, i10, i01, row_s, row_row, true_or, or_true, eq_self, not_false_eq_true, not_true_eq_false, if_true, if_false, ite_not, Decidable.not_not, and_true, true_and, or_false, false_or, lm0 hM, lm1 hM, lm5 hM, ixG0, ixG1, ixG2, ixG3, ixG4, ixG5, ixG6, ixG7, ixG8, clG0, clG1, clG2, clG3, clG4, clG5, clG6, clG7, clG8, rdG0, rdG1, rdG2, rdG3, rdG4, rdG5, rdG6, rdG7, rdG8, wrG0, wrG1, wrG2, wrG3, wrG4, wrG5, wrG6, wrG7, wrG8, X5_in_ev, h1, e, gp_sG, gp_sA, gp_sH, gp_sR, ap_sG, ap_sA, ap_sH, ap_sR, hp_sG, hp_sA, hp_sH, hp_sR, rp_sG, rp_sA, rp_sH, rp_sR, Nat.reduceLT, Nat.reduceEqDiff]
theorem op_setBonus (hD : LD F) (hM : LM F 583) (hF : Full N I) (v : Int32) : Step F N I (fun M => pm_ev tb xl xs mX4_setBonus 0 [some (.ref 0), some (.int v), none] [] M) (fun M => pm_ev tb xl xs mX5_setBonus 0 [some (.ref 583), some (.int v)] [] M) := by
  have hFull := hF
  obtain ⟨n, m, H, nA, nH, nR, hR, hFI, hC, hMH⟩ := hF
  generalize hs : I 584 = s at hR hFI
  have hB := ldB hD
  have h6 := hFI.1.1.1.2
  have h8 := hFI.1.1.2.1.2
  have h40 := hFI.1.1.2.2.1.2
  have hnA := hFI.1.1.1.1
  have hnH := hFI.1.1.2.1.1
  have hnR := hFI.1.1.2.2.1.1
  have hn8 := hC.2.2.2.1
  have qA : I 1 3 = nI nA := (rbg3 hR).trans hnA
  have qH : I 1 4 = nI nH := (rbg4 hR).trans hnH
  have qR : I 1 5 = nI nR := (rbg5 hR).trans hnR
  have eI : row I 584 s = I := by rw [← hs]; exact row_self
  have hrb := hFI.rb
  by_cases h1 : v < 0 ∨ 500 < v
  · refine same (v := -10001) hFull ?_ ?_
    · simp only [eX4_setBonus_0, eX4_setBonus_1, eX4_setBonus_2, eX4_setBonus_5, eX4_setBonus_8, eX4_setBonus_11, eX4_setBonus_14, eX4_setBonus_15, eX4_setBonus_16, eX4_setBonus_19, eX4_setBonus_20, eX4_setBonus_23, eX4_setBonus_26, eX4_setBonus_27, eX4_setBonus_28, eX4_setBonus_31, eX4_setBonus_32, eX4_setBonus_35, eX4_setBonus_36, one0, and_false, false_and, gk, gr, gi, gs, rv_some, ret_i, ret_n, Option.bind_some, List.cons_append, List.nil_append, z0, z1, zi, zj, i10, i01, true_or, or_true, eq_self, not_false_eq_true, not_true_eq_false, if_true, if_false, ite_not, Decidable.not_not, and_true, true_and, or_false, false_or, Nat.reduceLeDiff, Nat.reduceMod, Nat.reduceEqDiff, ld0 hD, ld1 hD, ld2 hD, ld3 hD, ld4 hD, ld5 hD, ld6 hD, lb0 (ldB hD), lb1 (ldB hD), lb2 (ldB hD), lb3 (ldB hD), lb4 (ldB hD), lb5 (ldB hD), lb6 (ldB hD), X4_isOutside_ev, h1]
    · simp only [eX5_setBonus_0, eX5_setBonus_1, eX5_setBonus_2, eX5_setBonus_3, eX5_setBonus_4, eX5_setBonus_7, eX5_setBonus_10, eX5_sets_0, eX5_sets_1, eX5_sets_2, eX5_sets_4, eX5_sets_7, eX5_sets_10, eX5_sets_13, eX5_sets_14, eX5_sets_15, eX5_sets_18, eX5_sets_19, eX5_sets_22, eX5_sets_23, eX5_sets_24, eX5_sets_26, eX5_sets_27, eX5_sets_30, eX5_sets_31, eX5_sets_32, eX5_sets_33, eX5_sets_35, one0, gk, gr, gj, gw, rv_some, ret_i, ret_n, Option.bind_some, List.cons_append, List.nil_append, z0, z1, zi, zj, i10, i01, row_s, row_row, true_or, or_true, eq_self, not_false_eq_true, not_true_eq_false, if_true, if_false, ite_not, Decidable.not_not, and_true, true_and, or_false, false_or, lm0 hM, lm1 hM, lm5 hM, X5_in_ev, h1]
  · refine deed (v := gp s 3) (s' := sG s 3 v) (nA' := nA) (nH' := nH) (nR' := nR) hs hR hFI hC hMH ?_ ?_ ?_
    · obtain ⟨w, rfl, hw1, hw2⟩ := rng_of (a := 0) (b := 500) (by omega) (by omega) h1
      refine ⟨hFI.1.wG (by decide) (by decide) (by decide) (by decide), hFI.2.of ?_ (fun a ha j hj => ap_sG (by decide)) (fun h hh j hj => hp_sG (by decide)) h8 (by omega) (by omega)⟩
      simp only [gp_sG, Nat.reduceEqDiff, if_true, if_false]
      exact ⟨hFI.2.1.1, hFI.2.1.2.1, hFI.2.1.2.2.1, in_n (by omega) (by omega)⟩
    · obtain ⟨J, m', e, ⟨hRJ, hCJ⟩, hk⟩ := X4_remember_ev (xl := xl) (xs := xs) hD hR hFI hC
      obtain ⟨g1, g2⟩ := behind (K := pm_u2 J 1 9 v) hCJ hk (Fr.rf.u2 (by omega))
      refine ⟨_, m', ?_, ⟨hRJ.wg9 h6 h8 h40, g1⟩, g2⟩
      simp only [eX4_setBonus_0, eX4_setBonus_1, eX4_setBonus_2, eX4_setBonus_5, eX4_setBonus_8, eX4_setBonus_11, eX4_setBonus_14, eX4_setBonus_15, eX4_setBonus_16, eX4_setBonus_19, eX4_setBonus_20, eX4_setBonus_23, eX4_setBonus_26, eX4_setBonus_27, eX4_setBonus_28, eX4_setBonus_31, eX4_setBonus_32, eX4_setBonus_35, eX4_setBonus_36, one0, and_false, false_and, gk, gr, gi, gs, rv_some, ret_i, ret_n, Option.bind_some, List.cons_append, List.nil_append, z0, z1, zi, zj, i10, i01, true_or, or_true, eq_self, not_false_eq_true, not_true_eq_false, if_true, if_false, ite_not, Decidable.not_not, and_true, true_and, or_false, false_or, Nat.reduceLeDiff, Nat.reduceMod, Nat.reduceEqDiff, ld0 hD, ld1 hD, ld2 hD, ld3 hD, ld4 hD, ld5 hD, ld6 hD, lb0 (ldB hD), lb1 (ldB hD), lb2 (ldB hD), lb3 (ldB hD), lb4 (ldB hD), lb5 (ldB hD), lb6 (ldB hD), rbg3 hR, rbg4 hR, rbg5 hR, rbg6 hR, rbg7 hR, rbg8 hR, rbg9 hR, rbg10 hR, rbg11 hR, X4_isOutside_ev, h1, e, rbg9 hRJ, u2_r]
    · intro J hJ; obtain ⟨J', e, hJ', hk⟩ := X5_keeps_ev (xl := xl) (xs := xs) (s := s) hM hJ hn8
      refine ⟨J', ?_, hJ', hk⟩
      simp only [eX5_setBonus_0, eX5_setBonus_1, eX5_setBonus_2, eX5_setBonus_3, eX5_setBonus_4, eX5_setBonus_7, eX5_setBonus_10, eX5_sets_0, eX5_sets_1, eX5_sets_2, eX5_sets_4, eX5_sets_7, eX5_sets_10, eX5_sets_13, eX5_sets_14, eX5_sets_15, eX5_sets_18, eX5_sets_19, eX5_sets_22, eX5_sets_23, eX5_sets_24, eX5_sets_26, eX5_sets_27, eX5_sets_30, eX5_sets_31, eX5_sets_32, eX5_sets_33, eX5_sets_35, one0, gk, gr, gj, gw, rv_some, ret_i, ret_n, Option.bind_some, List.cons_append, List.nil_append, z0, z1, zi, zj, i10, i01, row_s, row_row, true_or, or_true, eq_self, not_false_eq_true, not_true_eq_false, if_true, if_false, ite_not, Decidable.not_not, and_true, true_and, or_false, false_or, lm0 hM, lm1 hM, lm5 hM, ixG0, ixG1, ixG2, ixG3, ixG4, ixG5, ixG6, ixG7, ixG8, clG0, clG1, clG2, clG3, clG4, clG5, clG6, clG7, clG8, rdG0, rdG1, rdG2, rdG3, rdG4, rdG5, rdG6, rdG7, rdG8, wrG0, wrG1, wrG2, wrG3, wrG4, wrG5, wrG6, wrG7, wrG8, X5_in_ev, h1, e, gp_sG, gp_sA, gp_sH, gp_sR, ap_sG, ap_sA, ap_sH, ap_sR, hp_sG, hp_sA, hp_sH, hp_sR, rp_sG, rp_sA, rp_sH, rp_sR, Nat.reduceLT, Nat.reduceEqDiff]
theorem op_addAsset (hD : LD F) (hM : LM F 583) (hF : Full N I) (v w : Int32) : Step F N I (fun M => pm_ev tb xl xs mX4_addAsset 0 [some (.ref 0), some (.int v), some (.int w)] [] M) (fun M => pm_ev tb xl xs mX5_addAsset 0 [some (.ref 583), some (.int v), some (.int w), none] [] M) := by
  have hFull := hF
  obtain ⟨n, m, H, nA, nH, nR, hR, hFI, hC, hMH⟩ := hF
  generalize hs : I 584 = s at hR hFI
  have hB := ldB hD
  have h6 := hFI.1.1.1.2
  have h8 := hFI.1.1.2.1.2
  have h40 := hFI.1.1.2.2.1.2
  have hnA := hFI.1.1.1.1
  have hnH := hFI.1.1.2.1.1
  have hnR := hFI.1.1.2.2.1.1
  have hn8 := hC.2.2.2.1
  have qA : I 1 3 = nI nA := (rbg3 hR).trans hnA
  have qH : I 1 4 = nI nH := (rbg4 hR).trans hnH
  have qR : I 1 5 = nI nR := (rbg5 hR).trans hnR
  have eI : row I 584 s = I := by rw [← hs]; exact row_self
  have hrb := hFI.rb
  by_cases h1 : v < 1 ∨ 9 < v
  · refine same (v := -10001) hFull ?_ ?_
    · simp only [eX4_addAsset_0, eX4_addAsset_1, eX4_addAsset_2, eX4_addAsset_4, eX4_addAsset_7, eX4_addAsset_10, eX4_addAsset_11, eX4_addAsset_12, eX4_addAsset_15, eX4_addAsset_18, eX4_addAsset_21, eX4_addAsset_24, eX4_addAsset_25, eX4_addAsset_26, eX4_addAsset_29, eX4_addAsset_32, eX4_addAsset_34, eX4_addAsset_37, eX4_addAsset_40, eX4_addAsset_41, eX4_addAsset_42, eX4_addAsset_45, eX4_addAsset_46, eX4_addAsset_49, eX4_addAsset_50, eX4_addAsset_51, eX4_addAsset_54, one0, and_false, false_and, gk, gr, gi, gs, rv_some, ret_i, ret_n, Option.bind_some, List.cons_append, List.nil_append, z0, z1, zi, zj, i10, i01, true_or, or_true, eq_self, not_false_eq_true, not_true_eq_false, if_true, if_false, ite_not, Decidable.not_not, and_true, true_and, or_false, false_or, Nat.reduceLeDiff, Nat.reduceMod, Nat.reduceEqDiff, ld0 hD, ld1 hD, ld2 hD, ld3 hD, ld4 hD, ld5 hD, ld6 hD, lb0 (ldB hD), lb1 (ldB hD), lb2 (ldB hD), lb3 (ldB hD), lb4 (ldB hD), lb5 (ldB hD), lb6 (ldB hD), X4_isOutside_ev, h1]
    · simp only [eX5_addAsset_0, eX5_addAsset_1, eX5_addAsset_2, eX5_addAsset_4, eX5_addAsset_7, eX5_addAsset_10, eX5_addAsset_11, eX5_addAsset_12, eX5_addAsset_15, eX5_addAsset_18, eX5_addAsset_21, eX5_addAsset_24, eX5_addAsset_25, eX5_addAsset_26, eX5_addAsset_29, eX5_addAsset_30, eX5_addAsset_31, eX5_addAsset_33, eX5_addAsset_36, eX5_addAsset_39, eX5_addAsset_40, eX5_addAsset_41, eX5_addAsset_44, eX5_addAsset_45, eX5_addAsset_48, eX5_addAsset_49, eX5_addAsset_50, eX5_addAsset_51, eX5_addAsset_52, eX5_addAsset_55, eX5_addAsset_56, eX5_addAsset_57, eX5_addAsset_60, eX5_addAsset_61, eX5_addAsset_62, eX5_addAsset_63, eX5_addAsset_66, eX5_addAsset_67, eX5_addAsset_68, eX5_addAsset_71, eX5_addAsset_72, eX5_addAsset_73, eX5_addAsset_74, eX5_addAsset_77, eX5_addAsset_78, eX5_addAsset_79, eX5_addAsset_82, eX5_addAsset_83, eX5_addAsset_84, eX5_addAsset_85, eX5_addAsset_88, eX5_addAsset_89, eX5_addAsset_90, eX5_addAsset_91, eX5_addAsset_92, eX5_addAsset_93, eX5_addAsset_94, eX5_addAsset_95, one0, gk, gr, gj, gw, rv_some, ret_i, ret_n, Option.bind_some, List.cons_append, List.nil_append, z0, z1, zi, zj, i10, i01, row_s, row_row, true_or, or_true, eq_self, not_false_eq_true, not_true_eq_false, if_true, if_false, ite_not, Decidable.not_not, and_true, true_and, or_false, false_or, X5_in_ev, h1]
  · by_cases h2 : w < 0 ∨ 10000 < w
    · refine same (v := -10001) hFull ?_ ?_
      · simp only [eX4_addAsset_0, eX4_addAsset_1, eX4_addAsset_2, eX4_addAsset_4, eX4_addAsset_7, eX4_addAsset_10, eX4_addAsset_11, eX4_addAsset_12, eX4_addAsset_15, eX4_addAsset_18, eX4_addAsset_21, eX4_addAsset_24, eX4_addAsset_25, eX4_addAsset_26, eX4_addAsset_29, eX4_addAsset_32, eX4_addAsset_34, eX4_addAsset_37, eX4_addAsset_40, eX4_addAsset_41, eX4_addAsset_42, eX4_addAsset_45, eX4_addAsset_46, eX4_addAsset_49, eX4_addAsset_50, eX4_addAsset_51, eX4_addAsset_54, one0, and_false, false_and, gk, gr, gi, gs, rv_some, ret_i, ret_n, Option.bind_some, List.cons_append, List.nil_append, z0, z1, zi, zj, i10, i01, true_or, or_true, eq_self, not_false_eq_true, not_true_eq_false, if_true, if_false, ite_not, Decidable.not_not, and_true, true_and, or_false, false_or, Nat.reduceLeDiff, Nat.reduceMod, Nat.reduceEqDiff, ld0 hD, ld1 hD, ld2 hD, ld3 hD, ld4 hD, ld5 hD, ld6 hD, lb0 (ldB hD), lb1 (ldB hD), lb2 (ldB hD), lb3 (ldB hD), lb4 (ldB hD), lb5 (ldB hD), lb6 (ldB hD), X4_isOutside_ev, h1, h2]
      · simp only [eX5_addAsset_0, eX5_addAsset_1, eX5_addAsset_2, eX5_addAsset_4, eX5_addAsset_7, eX5_addAsset_10, eX5_addAsset_11, eX5_addAsset_12, eX5_addAsset_15, eX5_addAsset_18, eX5_addAsset_21, eX5_addAsset_24, eX5_addAsset_25, eX5_addAsset_26, eX5_addAsset_29, eX5_addAsset_30, eX5_addAsset_31, eX5_addAsset_33, eX5_addAsset_36, eX5_addAsset_39, eX5_addAsset_40, eX5_addAsset_41, eX5_addAsset_44, eX5_addAsset_45, eX5_addAsset_48, eX5_addAsset_49, eX5_addAsset_50, eX5_addAsset_51, eX5_addAsset_52, eX5_addAsset_55, eX5_addAsset_56, eX5_addAsset_57, eX5_addAsset_60, eX5_addAsset_61, eX5_addAsset_62, eX5_addAsset_63, eX5_addAsset_66, eX5_addAsset_67, eX5_addAsset_68, eX5_addAsset_71, eX5_addAsset_72, eX5_addAsset_73, eX5_addAsset_74, eX5_addAsset_77, eX5_addAsset_78, eX5_addAsset_79, eX5_addAsset_82, eX5_addAsset_83, eX5_addAsset_84, eX5_addAsset_85, eX5_addAsset_88, eX5_addAsset_89, eX5_addAsset_90, eX5_addAsset_91, eX5_addAsset_92, eX5_addAsset_93, eX5_addAsset_94, eX5_addAsset_95, one0, gk, gr, gj, gw, rv_some, ret_i, ret_n, Option.bind_some, List.cons_append, List.nil_append, z0, z1, zi, zj, i10, i01, row_s, row_row, true_or, or_true, eq_self, not_false_eq_true, not_true_eq_false, if_true, if_false, ite_not, Decidable.not_not, and_true, true_and, or_false, false_or, X5_in_ev, h1, h2]
    · have c1 : (nI nA < 6) = (nA < 6) := lt_iff (n := 6) (by omega) (by omega)
      have c2 : (nI nA = 6) = (nA = 6) := eq_iff (n := 6) (by omega) (by omega)
      by_cases h3 : nA < 6
      · have h4 : ¬ nA = 6 := by omega
        refine deed (v := nI nA) (s' := opnA s nA v w) (nA' := nA + 1) (nH' := nH) (nR' := nR) hs hR hFI hC hMH ?_ ?_ ?_
        · obtain ⟨x, rfl, hx1, hx2⟩ := rng_of (a := 1) (b := 9) (by omega) (by omega) h1
          obtain ⟨y, rfl, hy1, hy2⟩ := rng_of (a := 0) (b := 10000) (by omega) (by omega) h2
          exact (hFI.mono (Nat.le_succ N)).opA h3 hx1 (by omega) (by omega)
        · obtain ⟨J, m', e, ⟨hRJ, hCJ⟩, hk⟩ := X4_remember_ev (xl := xl) (xs := xs) hD hR hFI hC
          obtain ⟨K, e2, hRK, hFK⟩ := X1_openAsset_ev (xl := xl) (xs := xs) hB hRJ hFI.1 h3 (w := v) (al := w)
          obtain ⟨g1, g2⟩ := behind hCJ hk hFK
          refine ⟨K, m', ?_, ⟨hRK, g1⟩, g2⟩
          simp only [eX4_addAsset_0, eX4_addAsset_1, eX4_addAsset_2, eX4_addAsset_4, eX4_addAsset_7, eX4_addAsset_10, eX4_addAsset_11, eX4_addAsset_12, eX4_addAsset_15, eX4_addAsset_18, eX4_addAsset_21, eX4_addAsset_24, eX4_addAsset_25, eX4_addAsset_26, eX4_addAsset_29, eX4_addAsset_32, eX4_addAsset_34, eX4_addAsset_37, eX4_addAsset_40, eX4_addAsset_41, eX4_addAsset_42, eX4_addAsset_45, eX4_addAsset_46, eX4_addAsset_49, eX4_addAsset_50, eX4_addAsset_51, eX4_addAsset_54, one0, and_false, false_and, gk, gr, gi, gs, rv_some, ret_i, ret_n, Option.bind_some, List.cons_append, List.nil_append, z0, z1, zi, zj, i10, i01, true_or, or_true, eq_self, not_false_eq_true, not_true_eq_false, if_true, if_false, ite_not, Decidable.not_not, and_true, true_and, or_false, false_or, Nat.reduceLeDiff, Nat.reduceMod, Nat.reduceEqDiff, ld0 hD, ld1 hD, ld2 hD, ld3 hD, ld4 hD, ld5 hD, ld6 hD, lb0 (ldB hD), lb1 (ldB hD), lb2 (ldB hD), lb3 (ldB hD), lb4 (ldB hD), lb5 (ldB hD), lb6 (ldB hD), qA, X4_isOutside_ev, h1, h2, c1, h3, e, e2]
        · intro J hJ; obtain ⟨J', e, hJ', hk⟩ := X5_keeps_ev (xl := xl) (xs := xs) (s := s) hM hJ hn8
          refine ⟨J', ?_, hJ', hk⟩
          have ha : nA < 6 := h3
          simp only [eX5_addAsset_0, eX5_addAsset_1, eX5_addAsset_2, eX5_addAsset_4, eX5_addAsset_7, eX5_addAsset_10, eX5_addAsset_11, eX5_addAsset_12, eX5_addAsset_15, eX5_addAsset_18, eX5_addAsset_21, eX5_addAsset_24, eX5_addAsset_25, eX5_addAsset_26, eX5_addAsset_29, eX5_addAsset_30, eX5_addAsset_31, eX5_addAsset_33, eX5_addAsset_36, eX5_addAsset_39, eX5_addAsset_40, eX5_addAsset_41, eX5_addAsset_44, eX5_addAsset_45, eX5_addAsset_48, eX5_addAsset_49, eX5_addAsset_50, eX5_addAsset_51, eX5_addAsset_52, eX5_addAsset_55, eX5_addAsset_56, eX5_addAsset_57, eX5_addAsset_60, eX5_addAsset_61, eX5_addAsset_62, eX5_addAsset_63, eX5_addAsset_66, eX5_addAsset_67, eX5_addAsset_68, eX5_addAsset_71, eX5_addAsset_72, eX5_addAsset_73, eX5_addAsset_74, eX5_addAsset_77, eX5_addAsset_78, eX5_addAsset_79, eX5_addAsset_82, eX5_addAsset_83, eX5_addAsset_84, eX5_addAsset_85, eX5_addAsset_88, eX5_addAsset_89, eX5_addAsset_90, eX5_addAsset_91, eX5_addAsset_92, eX5_addAsset_93, eX5_addAsset_94, eX5_addAsset_95, one0, gk, gr, gj, gw, rv_some, ret_i, ret_n, Option.bind_some, List.cons_append, List.nil_append, z0, z1, zi, zj, i10, i01, row_s, row_row, true_or, or_true, eq_self, not_false_eq_true, not_true_eq_false, if_true, if_false, ite_not, Decidable.not_not, and_true, true_and, or_false, false_or, lm0 hM, lm1 hM, lm5 hM, ixG0, ixG1, ixG2, ixG3, ixG4, ixG5, ixG6, ixG7, ixG8, clG0, clG1, clG2, clG3, clG4, clG5, clG6, clG7, clG8, rdG0, rdG1, rdG2, rdG3, rdG4, rdG5, rdG6, rdG7, rdG8, wrG0, wrG1, wrG2, wrG3, wrG4, wrG5, wrG6, wrG7, wrG8, X5_atAsset_ev0, X5_atAsset_ev1, X5_atAsset_ev2, ixA0 ha, clA0 ha, rdA0, wrA0, ixA1 ha, clA1 ha, rdA1, wrA1, ixA2 ha, clA2 ha, rdA2, wrA2, X5_in_ev, h1, h2, hnA, c2, h4, e, gp_sG, gp_sA, gp_sH, gp_sR, ap_sG, ap_sA, ap_sH, ap_sR, hp_sG, hp_sA, hp_sH, hp_sR, rp_sG, rp_sA, rp_sH, rp_sR, Nat.reduceLT, Nat.reduceEqDiff, opnA]
      · have h4 : nA = 6 := by omega
        refine same (v := -10003) hFull ?_ ?_
        · simp only [eX4_addAsset_0, eX4_addAsset_1, eX4_addAsset_2, eX4_addAsset_4, eX4_addAsset_7, eX4_addAsset_10, eX4_addAsset_11, eX4_addAsset_12, eX4_addAsset_15, eX4_addAsset_18, eX4_addAsset_21, eX4_addAsset_24, eX4_addAsset_25, eX4_addAsset_26, eX4_addAsset_29, eX4_addAsset_32, eX4_addAsset_34, eX4_addAsset_37, eX4_addAsset_40, eX4_addAsset_41, eX4_addAsset_42, eX4_addAsset_45, eX4_addAsset_46, eX4_addAsset_49, eX4_addAsset_50, eX4_addAsset_51, eX4_addAsset_54, one0, and_false, false_and, gk, gr, gi, gs, rv_some, ret_i, ret_n, Option.bind_some, List.cons_append, List.nil_append, z0, z1, zi, zj, i10, i01, true_or, or_true, eq_self, not_false_eq_true, not_true_eq_false, if_true, if_false, ite_not, Decidable.not_not, and_true, true_and, or_false, false_or, Nat.reduceLeDiff, Nat.reduceMod, Nat.reduceEqDiff, ld0 hD, ld1 hD, ld2 hD, ld3 hD, ld4 hD, ld5 hD, ld6 hD, lb0 (ldB hD), lb1 (ldB hD), lb2 (ldB hD), lb3 (ldB hD), lb4 (ldB hD), lb5 (ldB hD), lb6 (ldB hD), qA, X4_isOutside_ev, h1, h2, c1, h3]
        · rw [← eI]
          simp only [eX5_addAsset_0, eX5_addAsset_1, eX5_addAsset_2, eX5_addAsset_4, eX5_addAsset_7, eX5_addAsset_10, eX5_addAsset_11, eX5_addAsset_12, eX5_addAsset_15, eX5_addAsset_18, eX5_addAsset_21, eX5_addAsset_24, eX5_addAsset_25, eX5_addAsset_26, eX5_addAsset_29, eX5_addAsset_30, eX5_addAsset_31, eX5_addAsset_33, eX5_addAsset_36, eX5_addAsset_39, eX5_addAsset_40, eX5_addAsset_41, eX5_addAsset_44, eX5_addAsset_45, eX5_addAsset_48, eX5_addAsset_49, eX5_addAsset_50, eX5_addAsset_51, eX5_addAsset_52, eX5_addAsset_55, eX5_addAsset_56, eX5_addAsset_57, eX5_addAsset_60, eX5_addAsset_61, eX5_addAsset_62, eX5_addAsset_63, eX5_addAsset_66, eX5_addAsset_67, eX5_addAsset_68, eX5_addAsset_71, eX5_addAsset_72, eX5_addAsset_73, eX5_addAsset_74, eX5_addAsset_77, eX5_addAsset_78, eX5_addAsset_79, eX5_addAsset_82, eX5_addAsset_83, eX5_addAsset_84, eX5_addAsset_85, eX5_addAsset_88, eX5_addAsset_89, eX5_addAsset_90, eX5_addAsset_91, eX5_addAsset_92, eX5_addAsset_93, eX5_addAsset_94, eX5_addAsset_95, one0, gk, gr, gj, gw, rv_some, ret_i, ret_n, Option.bind_some, List.cons_append, List.nil_append, z0, z1, zi, zj, i10, i01, row_s, row_row, true_or, or_true, eq_self, not_false_eq_true, not_true_eq_false, if_true, if_false, ite_not, Decidable.not_not, and_true, true_and, or_false, false_or, lm0 hM, lm1 hM, lm5 hM, ixG0, ixG1, ixG2, ixG3, ixG4, ixG5, ixG6, ixG7, ixG8, clG0, clG1, clG2, clG3, clG4, clG5, clG6, clG7, clG8, rdG0, rdG1, rdG2, rdG3, rdG4, rdG5, rdG6, rdG7, rdG8, wrG0, wrG1, wrG2, wrG3, wrG4, wrG5, wrG6, wrG7, wrG8, X5_in_ev, h1, h2, hnA, c2, h4]
          rfl
theorem op_addHunter (hN : N + 1 ≤ 2000) (hD : LD F) (hM : LM F 583) (hF : Full N I) : Step F N I (fun M => pm_ev tb xl xs mX4_addHunter 0 [some (.ref 0)] [] M) (fun M => pm_ev tb xl xs mX5_addHunter 0 [some (.ref 583)] [] M) := by
  have hFull := hF
  obtain ⟨n, m, H, nA, nH, nR, hR, hFI, hC, hMH⟩ := hF
  generalize hs : I 584 = s at hR hFI
  have hB := ldB hD
  have h6 := hFI.1.1.1.2
  have h8 := hFI.1.1.2.1.2
  have h40 := hFI.1.1.2.2.1.2
  have hnA := hFI.1.1.1.1
  have hnH := hFI.1.1.2.1.1
  have hnR := hFI.1.1.2.2.1.1
  have hn8 := hC.2.2.2.1
  have qA : I 1 3 = nI nA := (rbg3 hR).trans hnA
  have qH : I 1 4 = nI nH := (rbg4 hR).trans hnH
  have qR : I 1 5 = nI nR := (rbg5 hR).trans hnR
  have eI : row I 584 s = I := by rw [← hs]; exact row_self
  have hrb := hFI.rb
  have c1 : (nI nH < 8) = (nH < 8) := lt_iff (n := 8) (by omega) (by omega)
  have c2 : (nI nH = 8) = (nH = 8) := eq_iff (n := 8) (by omega) (by omega)
  by_cases h3 : nH < 8
  · have h4 : ¬ nH = 8 := by omega
    have hz : ∀ j, j < 4 → hp s nH j = 0 := fun j hj => hFI.2.2.2.2 nH (by omega) h3 j hj
    refine deed (v := nI nH) (s' := opnH s) (nA' := nA) (nH' := nH + 1) (nR' := nR) hs hR hFI hC hMH ?_ ?_ ?_
    · exact (hFI.mono (Nat.le_succ N)).opH hN h3
    · obtain ⟨J, m', e, ⟨hRJ, hCJ⟩, hk⟩ := X4_remember_ev (xl := xl) (xs := xs) hD hR hFI hC
      obtain ⟨K, e2, hRK, hFK⟩ := X1_openHunter_ev (xl := xl) (xs := xs) hB hRJ hFI.1 h3 hz
      obtain ⟨g1, g2⟩ := behind hCJ hk hFK
      refine ⟨K, m', ?_, ⟨hRK, g1⟩, g2⟩
      simp only [eX4_addHunter_0, eX4_addHunter_1, eX4_addHunter_4, eX4_addHunter_7, eX4_addHunter_9, eX4_addHunter_12, eX4_addHunter_15, eX4_addHunter_16, eX4_addHunter_17, eX4_addHunter_20, eX4_addHunter_21, eX4_addHunter_24, eX4_addHunter_27, one0, and_false, false_and, gk, gr, gi, gs, rv_some, ret_i, ret_n, Option.bind_some, List.cons_append, List.nil_append, z0, z1, zi, zj, i10, i01, true_or, or_true, eq_self, not_false_eq_true, not_true_eq_false, if_true, if_false, ite_not, Decidable.not_not, and_true, true_and, or_false, false_or, Nat.reduceLeDiff, Nat.reduceMod, Nat.reduceEqDiff, ld0 hD, ld1 hD, ld2 hD, ld3 hD, ld4 hD, ld5 hD, ld6 hD, lb0 (ldB hD), lb1 (ldB hD), lb2 (ldB hD), lb3 (ldB hD), lb4 (ldB hD), lb5 (ldB hD), lb6 (ldB hD), qH, c1, h3, e, e2]
    · intro J hJ; obtain ⟨J', e, hJ', hk⟩ := X5_keeps_ev (xl := xl) (xs := xs) (s := s) hM hJ hn8
      refine ⟨J', ?_, hJ', hk⟩
      simp only [eX5_addHunter_0, eX5_addHunter_1, eX5_addHunter_4, eX5_addHunter_5, eX5_addHunter_6, eX5_addHunter_8, eX5_addHunter_11, eX5_addHunter_14, eX5_addHunter_15, eX5_addHunter_16, eX5_addHunter_19, eX5_addHunter_20, eX5_addHunter_23, eX5_addHunter_24, eX5_addHunter_25, eX5_addHunter_26, eX5_addHunter_27, eX5_addHunter_28, eX5_addHunter_29, eX5_addHunter_30, eX5_addHunter_33, eX5_addHunter_34, eX5_addHunter_35, eX5_addHunter_36, eX5_addHunter_37, one0, gk, gr, gj, gw, rv_some, ret_i, ret_n, Option.bind_some, List.cons_append, List.nil_append, z0, z1, zi, zj, i10, i01, row_s, row_row, true_or, or_true, eq_self, not_false_eq_true, not_true_eq_false, if_true, if_false, ite_not, Decidable.not_not, and_true, true_and, or_false, false_or, lm0 hM, lm1 hM, lm5 hM, ixG0, ixG1, ixG2, ixG3, ixG4, ixG5, ixG6, ixG7, ixG8, clG0, clG1, clG2, clG3, clG4, clG5, clG6, clG7, clG8, rdG0, rdG1, rdG2, rdG3, rdG4, rdG5, rdG6, rdG7, rdG8, wrG0, wrG1, wrG2, wrG3, wrG4, wrG5, wrG6, wrG7, wrG8, hnH, c2, h4, e, gp_sG, gp_sA, gp_sH, gp_sR, ap_sG, ap_sA, ap_sH, ap_sR, hp_sG, hp_sA, hp_sH, hp_sR, rp_sG, rp_sA, rp_sH, rp_sR, Nat.reduceLT, Nat.reduceEqDiff, opnH, nI_1, sub1]
  · have h4 : nH = 8 := by omega
    refine same (v := -10003) hFull ?_ ?_
    · simp only [eX4_addHunter_0, eX4_addHunter_1, eX4_addHunter_4, eX4_addHunter_7, eX4_addHunter_9, eX4_addHunter_12, eX4_addHunter_15, eX4_addHunter_16, eX4_addHunter_17, eX4_addHunter_20, eX4_addHunter_21, eX4_addHunter_24, eX4_addHunter_27, one0, and_false, false_and, gk, gr, gi, gs, rv_some, ret_i, ret_n, Option.bind_some, List.cons_append, List.nil_append, z0, z1, zi, zj, i10, i01, true_or, or_true, eq_self, not_false_eq_true, not_true_eq_false, if_true, if_false, ite_not, Decidable.not_not, and_true, true_and, or_false, false_or, Nat.reduceLeDiff, Nat.reduceMod, Nat.reduceEqDiff, ld0 hD, ld1 hD, ld2 hD, ld3 hD, ld4 hD, ld5 hD, ld6 hD, lb0 (ldB hD), lb1 (ldB hD), lb2 (ldB hD), lb3 (ldB hD), lb4 (ldB hD), lb5 (ldB hD), lb6 (ldB hD), qH, c1, h3]
    · rw [← eI]
      simp only [eX5_addHunter_0, eX5_addHunter_1, eX5_addHunter_4, eX5_addHunter_5, eX5_addHunter_6, eX5_addHunter_8, eX5_addHunter_11, eX5_addHunter_14, eX5_addHunter_15, eX5_addHunter_16, eX5_addHunter_19, eX5_addHunter_20, eX5_addHunter_23, eX5_addHunter_24, eX5_addHunter_25, eX5_addHunter_26, eX5_addHunter_27, eX5_addHunter_28, eX5_addHunter_29, eX5_addHunter_30, eX5_addHunter_33, eX5_addHunter_34, eX5_addHunter_35, eX5_addHunter_36, eX5_addHunter_37, one0, gk, gr, gj, gw, rv_some, ret_i, ret_n, Option.bind_some, List.cons_append, List.nil_append, z0, z1, zi, zj, i10, i01, row_s, row_row, true_or, or_true, eq_self, not_false_eq_true, not_true_eq_false, if_true, if_false, ite_not, Decidable.not_not, and_true, true_and, or_false, false_or, lm0 hM, lm1 hM, lm5 hM, ixG0, ixG1, ixG2, ixG3, ixG4, ixG5, ixG6, ixG7, ixG8, clG0, clG1, clG2, clG3, clG4, clG5, clG6, clG7, clG8, rdG0, rdG1, rdG2, rdG3, rdG4, rdG5, rdG6, rdG7, rdG8, wrG0, wrG1, wrG2, wrG3, wrG4, wrG5, wrG6, wrG7, wrG8, hnH, c2, h4]
      rfl
theorem op_undo (hD : LD F) (hM : LM F 583) (hF : Full N I) : Step F N I (fun M => pm_ev tb xl xs mX4_undo 0 [some (.ref 0)] [] M) (fun M => pm_ev tb xl xs mX5_undo 0 [some (.ref 583), none] [] M) := by
  have hFull := hF
  obtain ⟨n, m, H, nA, nH, nR, hR, hFI, hC, hMH⟩ := hF
  generalize hs : I 584 = s at hR hFI
  have hB := ldB hD
  have h6 := hFI.1.1.1.2
  have h8 := hFI.1.1.2.1.2
  have h40 := hFI.1.1.2.2.1.2
  have hnA := hFI.1.1.1.1
  have hnH := hFI.1.1.2.1.1
  have hnR := hFI.1.1.2.2.1.1
  have hn8 := hC.2.2.2.1
  have qA : I 1 3 = nI nA := (rbg3 hR).trans hnA
  have qH : I 1 4 = nI nH := (rbg4 hR).trans hnH
  have qR : I 1 5 = nI nR := (rbg5 hR).trans hnR
  have eI : row I 584 s = I := by rw [← hs]; exact row_self
  have hrb := hFI.rb
  cases n with
  | zero =>
    have h1 : I 0 5 = nI 0 := hC.2.1
    have h2 : I 583 3 = nI 0 := hMH.1
    have e0 : (nI 0 = (0 : Int32)) = True := eq_true rfl
    refine same (v := -10002) hFull ?_ ?_
    · simp only [eX4_undo_0, eX4_undo_1, eX4_undo_4, eX4_undo_7, eX4_undo_10, eX4_undo_11, eX4_undo_12, eX4_undo_13, eX4_undo_16, eX4_undo_19, eX4_undo_21, eX4_undo_24, eX4_undo_25, eX4_undo_28, eX4_undo_29, eX4_undo_30, eX4_undo_33, eX4_undo_34, eX4_undo_37, eX4_undo_38, eX4_undo_41, eX4_undo_42, eX4_undo_45, eX4_undo_46, eX4_undo_49, eX4_undo_50, eX4_undo_51, eX4_undo_54, eX4_undo_55, eX4_undo_56, eX4_undo_59, eX4_undo_60, eX4_undo_63, one0, and_false, false_and, gk, gr, gi, gs, rv_some, ret_i, ret_n, Option.bind_some, List.cons_append, List.nil_append, z0, z1, zi, zj, i10, i01, true_or, or_true, eq_self, not_false_eq_true, not_true_eq_false, if_true, if_false, ite_not, Decidable.not_not, and_true, true_and, or_false, false_or, Nat.reduceLeDiff, Nat.reduceMod, Nat.reduceEqDiff, ld0 hD, ld1 hD, ld2 hD, ld3 hD, ld4 hD, ld5 hD, ld6 hD, lb0 (ldB hD), lb1 (ldB hD), lb2 (ldB hD), lb3 (ldB hD), lb4 (ldB hD), lb5 (ldB hD), lb6 (ldB hD), h1, e0]
    · simp only [eX5_undo_0, eX5_undo_1, eX5_undo_4, eX5_undo_7, eX5_undo_10, eX5_undo_11, eX5_undo_12, eX5_undo_13, eX5_undo_16, eX5_undo_17, eX5_undo_18, eX5_undo_21, eX5_undo_22, eX5_undo_24, eX5_undo_27, eX5_undo_30, eX5_undo_31, eX5_undo_34, eX5_undo_35, eX5_undo_36, eX5_undo_39, eX5_undo_42, eX5_undo_43, eX5_undo_46, eX5_undo_47, eX5_undo_48, eX5_undo_49, eX5_undo_50, eX5_undo_51, eX5_undo_54, eX5_undo_57, eX5_undo_58, eX5_undo_61, one0, gk, gr, gj, gw, rv_some, ret_i, ret_n, Option.bind_some, List.cons_append, List.nil_append, z0, z1, zi, zj, i10, i01, row_s, row_row, true_or, or_true, eq_self, not_false_eq_true, not_true_eq_false, if_true, if_false, ite_not, Decidable.not_not, and_true, true_and, or_false, false_or, lm0 hM, lm1 hM, lm5 hM, gqv, h2, e0]
  | succ n =>
    obtain ⟨I1, m', a, b, c, e1, ⟨⟨hR1, hF1⟩, hC1⟩, hk⟩ := X4_undo_ev (xl := xl) (xs := xs) hD hC
    have hM1 : MHs I1 (n + 1) H := by
      obtain ⟨h1, h2⟩ := hMH
      exact ⟨by rw [hk 583 (by omega)]; exact h1, fun j hj k hk' => by rw [hk 585 (by omega)]; exact h2 j hj k hk'⟩
    obtain ⟨J', s', e2, ⟨hM2, hs'⟩, hk2⟩ := X5_undo_ev (xl := xl) (xs := xs) (s := I1 584) hM hM1 (by omega)
    rw [rowI] at e2
    refine ⟨nI n, I1, row J' 584 s', e1, e2, n, m', H, a, b, c, ?_, ?_, ?_, hM2.row⟩
    · rw [row_s]
      exact (hR1.to hF1.1.1.1.2 hF1.1.1.2.1.2 hF1.1.1.2.2.1.2 (fun _ _ _ => rfl) (s' := s') (fun k hk => hs' k hk)).row hF1.1.1.1.2 hF1.1.1.2.1.2 hF1.1.1.2.2.1.2 hk2
    · rw [row_s]
      exact (hF1.mono (Nat.le_succ N)).cg hs'
    · refine (hC1.to (I' := row J' 584 s') ?_ (fun k g1 g2 => ?_)).mono (Nat.le_succ N)
      · rw [row_n (by omega)]; exact hk2 0 (by omega)
      · rw [row_n (by omega)]; exact hk2 k (by omega)
end DEEDS
