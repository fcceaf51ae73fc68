/-! best -/
abbrev ahead (s : St) (nR a b : Nat) : Prop := stnS s nR a = stnS s nR b ∧ (hp s a 0 = hp s b 0 ∧ a < b ∨ ¬ hp s a 0 = hp s b 0 ∧ hp s b 0 < hp s a 0) ∨ ¬ stnS s nR a = stnS s nR b ∧ stnS s nR b < stnS s nR a
section BEST
variable {xl : Nat} {xs : Nat → Int32} {F : pm_F} {I J : Nat → Nat → Int32} {N : Nat} {s : St} {nA nH nR Rb Mb Nb : Nat} {p f : Nat → Int32} {x y : Int32}
theorem sub_int (hx : -1073741824 < x.toInt ∧ x.toInt < 1073741824) (hy : -1073741824 < y.toInt ∧ y.toInt < 1073741824) : (x - y).toInt = x.toInt - y.toInt := by
  rw [Int32.toInt_sub]
  have h : ((2 ^ 32 : Nat) : Int) = 4294967296 := by decide
  unfold Int.bmod
  dsimp only
  split <;> omega
theorem sub_pos (hx : -1073741824 < x.toInt ∧ x.toInt < 1073741824) (hy : -1073741824 < y.toInt ∧ y.toInt < 1073741824) : (0 < x - y) = (y < x) := propext (by
  rw [Int32.lt_iff_toInt_lt, Int32.lt_iff_toInt_lt, sub_int hx hy]
  have : (0 : Int32).toInt = 0 := by decide
  omega)
theorem sub_zer (hx : -1073741824 < x.toInt ∧ x.toInt < 1073741824) (hy : -1073741824 < y.toInt ∧ y.toInt < 1073741824) : (x - y = 0) = (x = y) := propext (by
  have h0 : (0 : Int32).toInt = 0 := by decide
  constructor
  · intro h
    have h1 := sub_int hx hy
    rw [h, h0] at h1
    exact Int32.toInt_inj.mp (by omega)
  · intro h
    rw [h]
    exact Int32.toInt_inj.mp (by rw [sub_int hy hy, h0]; omega))
theorem add_int {a b : Int} (ha : x.toInt = a) (hb : y.toInt = b) (h1 : -1073741824 < a ∧ a < 1073741824) (h2 : -1073741824 < b ∧ b < 1073741824) : (x + y).toInt = a + b := by
  rw [Int32.toInt_add, ha, hb]
  have h : ((2 ^ 32 : Nat) : Int) = 4294967296 := by decide
  unfold Int.bmod
  dsimp only
  split <;> omega
theorem stn_in (hI : Iv s nA nH nR) (hB : Bd Rb Mb Nb s nA nH) (hNb : Nb ≤ 100000) {h : Nat} (hh : h < nH) : -1073741824 < (stnS s nR h).toInt ∧ (stnS s nR h).toInt < 1073741824 := by
  have h40 := hI.1.2.2.1.2
  obtain ⟨-, c1, c2, c3⟩ := hB.2.2.1 h hh
  obtain ⟨w, hw, hw2, -⟩ := vin c1 (by omega)
  obtain ⟨l, hl, hl2, -⟩ := vin c2 (by omega)
  obtain ⟨b, hb, hb2, -⟩ := vin c3 (by omega)
  have e0 : (2 * hp s h 1 - hp s h 2 + hp s h 3).toInt = 2 * w - l + b := by
    rw [hw2, hl2, hb2]
    have e1 : (2 : Int32) * nI w = nI (2 * w) := pk_mul 2 w
    rw [e1]
    have e2 : (nI (2 * w) - nI l).toInt = (2 * w : Nat) - l := pk_sub_toInt (by omega) (by omega)
    have e3 : (nI b).toInt = b := nI_toInt (by omega)
    rw [add_int e2 e3 (by omega) (by omega)]
    omega
  have := lp_inv (fun i (x : Int32) => -1000000 - 3 * (i : Int) < x.toInt ∧ x.toInt < 1000000 + 3 * (i : Int)) (fun r x => x + stR s h r) nR (fun i x hi hx => by
    have hs : ∃ d : Int, (stR s h i).toInt = d ∧ -3 ≤ d ∧ d ≤ 3 := by
      unfold stR
      split
      · split
        · exact ⟨3, by decide, by omega, by omega⟩
        · split
          · exact ⟨1, by decide, by omega, by omega⟩
          · split
            · exact ⟨-2, by decide, by omega, by omega⟩
            · exact ⟨0, by decide, by omega, by omega⟩
      · exact ⟨0, by decide, by omega, by omega⟩
    obtain ⟨d, h1, h2, h3⟩ := hs
    show _ < (x + stR s h i).toInt ∧ (x + stR s h i).toInt < _
    rw [add_int rfl h1 (by omega) (by omega)]
    omega) nR 0 (2 * hp s h 1 - hp s h 2 + hp s h 3) (by omega) (by rw [e0]; omega)
  unfold stnS
  omega
theorem X4_isAhead_ev (hD : LD F) (hR : RB I 1 s nA nH nR) (hI : Iv s nA nH nR) (hst : ∀ j, j < nH → I 582 j = stnS s nR j) {a b : Nat} (ha : a < nH) (hb : b < nH) : pm_ev tb xl xs mX4_isAhead 0 [some (.ref 0), some (.int (nI a)), some (.int (nI b)), none, none] [] (pm_G F I) = some (some (.int (if ahead s nR a b then 1 else 0)), pm_G F I) := by
  have hB := ldB hD
  have h8 := hI.1.2.1.2
  have ha8 : a < 8 := by omega
  have hb8 : b < 8 := by omega
  have hab : (nI a < nI b) = (a < b) := lt_iff (by omega) (by omega)
  unfold ahead
  simp only [eX4_isAhead_0, eX4_isAhead_1, eX4_isAhead_4, eX4_isAhead_5, eX4_isAhead_6, eX4_isAhead_7, eX4_isAhead_10, eX4_isAhead_11, eX4_isAhead_12, eX4_isAhead_15, eX4_isAhead_16, eX4_isAhead_19, eX4_isAhead_20, eX4_isAhead_21, eX4_isAhead_22, eX4_isAhead_25, eX4_isAhead_26, eX4_isAhead_27, eX4_isAhead_30, eX4_isAhead_31, eX4_isAhead_34, eX4_isAhead_35, eX4_isAhead_36, eX4_isAhead_37, eX4_isAhead_40, eX4_isAhead_43, eX4_isAhead_44, eX4_isAhead_45, eX4_isAhead_48, eX4_isAhead_49, eX4_isAhead_50, eX4_isAhead_53, eX4_isAhead_56, eX4_isAhead_57, eX4_isAhead_58, eX4_isAhead_61, eX4_isAhead_63, eX4_isAhead_64, eX4_isAhead_66, eX4_isAhead_69, eX4_isAhead_70, eX4_isAhead_72, eX4_isAhead_75, eX4_isAhead_76, eX4_isAhead_79, eX4_isAhead_80, eX4_isAhead_83, eX4_isAhead_84, eX4_isAhead_85, eX4_isAhead_88, eX4_isAhead_89, eX4_isAhead_92, eX4_isAhead_93, one0, and_false, false_and, gk, gr, gi, gs, rv_some, ret_i, ret_n, Option.bind_some, List.cons_append, List.nil_append, z0, z1, zi, zj, i10, i01, true_or, or_true, eq_self, not_false_eq_true, not_true_eq_false, if_true, if_false, ite_not, Decidable.not_not, and_true, true_and, or_false, false_or, Nat.reduceLeDiff, Nat.reduceMod, Nat.reduceEqDiff, ld0 hD, ld1 hD, ld2 hD, ld3 hD, ld4 hD, ld5 hD, ld6 hD, lb0 (ldB hD), lb1 (ldB hD), lb2 (ldB hD), lb3 (ldB hD), lb4 (ldB hD), lb5 (ldB hD), lb6 (ldB hD), ix8 ha8, cl8 ha8, ix8 hb8, cl8 hb8, hst a ha, hst b hb, lbh hB ha8, lbh2 hB ha8, lbh hB hb8, lbh2 hB hb8, rbh0 hR ha, rbh0 hR hb, hab]
  by_cases h1 : stnS s nR a = stnS s nR b
  · simp only [one0, and_false, false_and, gk, gr, gi, gs, rv_some, ret_i, ret_n, Option.bind_some, List.cons_append, List.nil_append, z0, z1, zi, zj, i10, i01, true_or, or_true, eq_self, not_false_eq_true, not_true_eq_false, if_true, if_false, ite_not, Decidable.not_not, and_true, true_and, or_false, false_or, Nat.reduceLeDiff, Nat.reduceMod, Nat.reduceEqDiff, h1]
    by_cases h2 : hp s a 0 = hp s b 0
    · simp only [one0, and_false, false_and, gk, gr, gi, gs, rv_some, ret_i, ret_n, Option.bind_some, List.cons_append, List.nil_append, z0, z1, zi, zj, i10, i01, true_or, or_true, eq_self, not_false_eq_true, not_true_eq_false, if_true, if_false, ite_not, Decidable.not_not, and_true, true_and, or_false, false_or, Nat.reduceLeDiff, Nat.reduceMod, Nat.reduceEqDiff, h2]
      by_cases h3 : a < b
      · simp only [one0, and_false, false_and, gk, gr, gi, gs, rv_some, ret_i, ret_n, Option.bind_some, List.cons_append, List.nil_append, z0, z1, zi, zj, i10, i01, true_or, or_true, eq_self, not_false_eq_true, not_true_eq_false, if_true, if_false, ite_not, Decidable.not_not, and_true, true_and, or_false, false_or, Nat.reduceLeDiff, Nat.reduceMod, Nat.reduceEqDiff, h3]
      · simp only [one0, and_false, false_and, gk, gr, gi, gs, rv_some, ret_i, ret_n, Option.bind_some, List.cons_append, List.nil_append, z0, z1, zi, zj, i10, i01, true_or, or_true, eq_self, not_false_eq_true, not_true_eq_false, if_true, if_false, ite_not, Decidable.not_not, and_true, true_and, or_false, false_or, Nat.reduceLeDiff, Nat.reduceMod, Nat.reduceEqDiff, h3]
    · simp only [one0, and_false, false_and, gk, gr, gi, gs, rv_some, ret_i, ret_n, Option.bind_some, List.cons_append, List.nil_append, z0, z1, zi, zj, i10, i01, true_or, or_true, eq_self, not_false_eq_true, not_true_eq_false, if_true, if_false, ite_not, Decidable.not_not, and_true, true_and, or_false, false_or, Nat.reduceLeDiff, Nat.reduceMod, Nat.reduceEqDiff, h2]
      by_cases h3 : hp s b 0 < hp s a 0
      · simp only [one0, and_false, false_and, gk, gr, gi, gs, rv_some, ret_i, ret_n, Option.bind_some, List.cons_append, List.nil_append, z0, z1, zi, zj, i10, i01, true_or, or_true, eq_self, not_false_eq_true, not_true_eq_false, if_true, if_false, ite_not, Decidable.not_not, and_true, true_and, or_false, false_or, Nat.reduceLeDiff, Nat.reduceMod, Nat.reduceEqDiff, h3]
      · simp only [one0, and_false, false_and, gk, gr, gi, gs, rv_some, ret_i, ret_n, Option.bind_some, List.cons_append, List.nil_append, z0, z1, zi, zj, i10, i01, true_or, or_true, eq_self, not_false_eq_true, not_true_eq_false, if_true, if_false, ite_not, Decidable.not_not, and_true, true_and, or_false, false_or, Nat.reduceLeDiff, Nat.reduceMod, Nat.reduceEqDiff, h3]
  · simp only [one0, and_false, false_and, gk, gr, gi, gs, rv_some, ret_i, ret_n, Option.bind_some, List.cons_append, List.nil_append, z0, z1, zi, zj, i10, i01, true_or, or_true, eq_self, not_false_eq_true, not_true_eq_false, if_true, if_false, ite_not, Decidable.not_not, and_true, true_and, or_false, false_or, Nat.reduceLeDiff, Nat.reduceMod, Nat.reduceEqDiff, h1]
    by_cases h3 : stnS s nR b < stnS s nR a
    · simp only [one0, and_false, false_and, gk, gr, gi, gs, rv_some, ret_i, ret_n, Option.bind_some, List.cons_append, List.nil_append, z0, z1, zi, zj, i10, i01, true_or, or_true, eq_self, not_false_eq_true, not_true_eq_false, if_true, if_false, ite_not, Decidable.not_not, and_true, true_and, or_false, false_or, Nat.reduceLeDiff, Nat.reduceMod, Nat.reduceEqDiff, h3]
    · simp only [one0, and_false, false_and, gk, gr, gi, gs, rv_some, ret_i, ret_n, Option.bind_some, List.cons_append, List.nil_append, z0, z1, zi, zj, i10, i01, true_or, or_true, eq_self, not_false_eq_true, not_true_eq_false, if_true, if_false, ite_not, Decidable.not_not, and_true, true_and, or_false, false_or, Nat.reduceLeDiff, Nat.reduceMod, Nat.reduceEqDiff, h3]
/-- how many are ahead of one -/
def cntA (s : St) (nR nH b : Nat) : Int32 := lp (fun a x => x + if ahead s nR a b then 1 else 0) 0 nH 0
theorem X4_huntersAheadOf_ev (hD : LD F) (hR : RB I 1 s nA nH nR) (hI : Iv s nA nH nR) (hst : ∀ j, j < nH → I 582 j = stnS s nR j) {b : Nat} (hb : b < nH) : pm_ev tb xl xs mX4_huntersAheadOf 0 [some (.ref 0), some (.int (nI b)), none, none] [] (pm_G F I) = some (some (.int (cntA s nR nH b)), pm_G F I) := by
  have hB := ldB hD
  have h8 := hI.1.2.1.2
  have hnH := hI.1.2.1.1
  have qH : I 1 4 = nI nH := (rbg4 hR).trans hnH
  have h1 := lp_ev0 nH (fun i (x : Int32) => pm_ev tb xl xs mX4_huntersAheadOf 4 [some (.ref 0), some (.int (nI b)), some (.int x), some (.int (nI i))] [] (pm_G F I)) (fun a x => x + if ahead s nR a b then 1 else 0) (fun i x hi => by
    show pm_ev tb xl xs mX4_huntersAheadOf 4 [some (.ref 0), some (.int (nI b)), some (.int x), some (.int (nI i))] [] (pm_G F I) = _
    rw [eX4_huntersAheadOf_4]
    simp only [eX4_huntersAheadOf_0, eX4_huntersAheadOf_1, eX4_huntersAheadOf_2, eX4_huntersAheadOf_3, eX4_huntersAheadOf_5, eX4_huntersAheadOf_6, eX4_huntersAheadOf_9, eX4_huntersAheadOf_12, eX4_huntersAheadOf_15, eX4_huntersAheadOf_16, eX4_huntersAheadOf_17, eX4_huntersAheadOf_18, eX4_huntersAheadOf_21, eX4_huntersAheadOf_24, eX4_huntersAheadOf_27, eX4_huntersAheadOf_30, eX4_huntersAheadOf_33, eX4_huntersAheadOf_34, one0, and_false, false_and, gk, gr, gi, gs, rv_some, ret_i, ret_n, Option.bind_some, List.cons_append, List.nil_append, z0, z1, zi, zj, i10, i01, true_or, or_true, eq_self, not_false_eq_true, not_true_eq_false, if_true, if_false, ite_not, Decidable.not_not, and_true, true_and, or_false, false_or, Nat.reduceLeDiff, Nat.reduceMod, Nat.reduceEqDiff, ld0 hD, ld1 hD, ld2 hD, ld3 hD, ld4 hD, ld5 hD, ld6 hD, lb0 (ldB hD), lb1 (ldB hD), lb2 (ldB hD), lb3 (ldB hD), lb4 (ldB hD), lb5 (ldB hD), lb6 (ldB hD), qH, lt_t hi (show nH < 2147483648 by omega), X4_isAhead_ev hD hR hI hst hi hb, nI_1]
    by_cases hc : ahead s nR i b
    · rw [if_pos hc, if_pos hc]
    · rw [if_neg hc, if_neg hc, Int32.add_zero]) 0
  simp only [eX4_huntersAheadOf_0, eX4_huntersAheadOf_1, eX4_huntersAheadOf_2, eX4_huntersAheadOf_3, eX4_huntersAheadOf_5, eX4_huntersAheadOf_6, eX4_huntersAheadOf_9, eX4_huntersAheadOf_12, eX4_huntersAheadOf_15, eX4_huntersAheadOf_16, eX4_huntersAheadOf_17, eX4_huntersAheadOf_18, eX4_huntersAheadOf_21, eX4_huntersAheadOf_24, eX4_huntersAheadOf_27, eX4_huntersAheadOf_30, eX4_huntersAheadOf_33, eX4_huntersAheadOf_34, one0, and_false, false_and, gk, gr, gi, gs, rv_some, ret_i, ret_n, Option.bind_some, List.cons_append, List.nil_append, z0, z1, zi, zj, i10, i01, true_or, or_true, eq_self, not_false_eq_true, not_true_eq_false, if_true, if_false, ite_not, Decidable.not_not, and_true, true_and, or_false, false_or, Nat.reduceLeDiff, Nat.reduceMod, Nat.reduceEqDiff]
  refine Eq.trans h1 ?_
  show pm_ev tb xl xs mX4_huntersAheadOf 4 [some (.ref 0), some (.int (nI b)), some (.int (cntA s nR nH b)), some (.int (nI nH))] [] (pm_G F I) = _
  rw [eX4_huntersAheadOf_4]
  simp only [eX4_huntersAheadOf_0, eX4_huntersAheadOf_1, eX4_huntersAheadOf_2, eX4_huntersAheadOf_3, eX4_huntersAheadOf_5, eX4_huntersAheadOf_6, eX4_huntersAheadOf_9, eX4_huntersAheadOf_12, eX4_huntersAheadOf_15, eX4_huntersAheadOf_16, eX4_huntersAheadOf_17, eX4_huntersAheadOf_18, eX4_huntersAheadOf_21, eX4_huntersAheadOf_24, eX4_huntersAheadOf_27, eX4_huntersAheadOf_30, eX4_huntersAheadOf_33, eX4_huntersAheadOf_34, one0, and_false, false_and, gk, gr, gi, gs, rv_some, ret_i, ret_n, Option.bind_some, List.cons_append, List.nil_append, z0, z1, zi, zj, i10, i01, true_or, or_true, eq_self, not_false_eq_true, not_true_eq_false, if_true, if_false, ite_not, Decidable.not_not, and_true, true_and, or_false, false_or, Nat.reduceLeDiff, Nat.reduceMod, Nat.reduceEqDiff, ld0 hD, ld1 hD, ld2 hD, ld3 hD, ld4 hD, ld5 hD, ld6 hD, lb0 (ldB hD), lb1 (ldB hD), lb2 (ldB hD), lb3 (ldB hD), lb4 (ldB hD), lb5 (ldB hD), lb6 (ldB hD), qH, lt_f (Nat.le_refl nH) (show nH < 2147483648 by omega)]
theorem X4_best_ev (hD : LD F) (hR : RB I 1 s nA nH nR) (hI : Iv s nA nH nR) {v : Int32} (hv : ¬ v < 0) : ∃ p, pm_ev tb xl xs mX4_best 0 [some (.ref 0), some (.int v), none] [] (pm_G F I) = some (some (.int (ff (fun i => decide (cntA s nR nH i = v)) 0 nH)), pm_G F (row I 582 p)) := by
  have hB := ldB hD
  have h6 := hI.1.1.2
  have h8 := hI.1.2.1.2
  have h40 := hI.1.2.2.1.2
  have hnH := hI.1.2.1.1
  have hRp : ∀ p, RB (row I 582 p) 1 s nA nH nR := fun p => hR.to h6 h8 h40 (fun k g1 g2 => row_n (by omega)) (fun _ _ => rfl)
  have qH : ∀ p, row I 582 p 1 4 = nI nH := fun p => (rbg4 (hRp p)).trans hnH
  have h1 := lp_ev0 nH (fun i (p : Nat → Int32) => pm_ev tb xl xs mX4_best 10 [some (.ref 0), some (.int v), some (.int (nI i))] [] (pm_G F (row I 582 p))) (fun i p => upd p i (stnS s nR i)) (fun i p hi => by
    have hi8 : i < 8 := by omega
    show pm_ev tb xl xs mX4_best 10 [some (.ref 0), some (.int v), some (.int (nI i))] [] (pm_G F (row I 582 p)) = _
    rw [eX4_best_10]
    have e : ∀ w, pm_G F (pm_u2 (row I 582 p) 582 i w) = pm_G F (row I 582 (upd p i w)) := fun w => by
      have := gw (F := F) (I := row I 582 p) (o := 582) (j := i) (v := w)
      rw [row_s, row_row] at this
      exact this
    simp only [eX4_best_0, eX4_best_1, eX4_best_4, eX4_best_7, eX4_best_8, eX4_best_9, eX4_best_11, eX4_best_12, eX4_best_15, eX4_best_18, eX4_best_21, eX4_best_22, eX4_best_25, eX4_best_26, eX4_best_27, eX4_best_30, eX4_best_31, eX4_best_34, eX4_best_35, eX4_best_38, eX4_best_41, eX4_best_42, eX4_best_44, eX4_best_45, eX4_best_48, eX4_best_51, eX4_best_54, eX4_best_55, eX4_best_56, eX4_best_59, eX4_best_60, eX4_best_63, eX4_best_64, eX4_best_65, eX4_best_68, eX4_best_71, eX4_best_74, one0, and_false, false_and, gk, gr, gi, gs, rv_some, ret_i, ret_n, Option.bind_some, List.cons_append, List.nil_append, z0, z1, zi, zj, i10, i01, true_or, or_true, eq_self, not_false_eq_true, not_true_eq_false, if_true, if_false, ite_not, Decidable.not_not, and_true, true_and, or_false, false_or, Nat.reduceLeDiff, Nat.reduceMod, Nat.reduceEqDiff, ld0 hD, ld1 hD, ld2 hD, ld3 hD, ld4 hD, ld5 hD, ld6 hD, lb0 (ldB hD), lb1 (ldB hD), lb2 (ldB hD), lb3 (ldB hD), lb4 (ldB hD), lb5 (ldB hD), lb6 (ldB hD), qH p, lt_t hi (show nH < 2147483648 by omega), X1_standingOf_ev hB (hRp p) hI hi, ix8 hi8, cl8 hi8, e, nI_1]) (I 582)
  have h2 := lp_inv (fun i (p : Nat → Int32) => ∀ a, a < i → p a = stnS s nR a) (fun i (p : Nat → Int32) => upd p i (stnS s nR i)) nH (fun i p hi h a ha => by
    show upd p i (stnS s nR i) a = stnS s nR a
    unfold upd
    by_cases e : a = i
    · rw [if_pos e, e]
    · rw [if_neg e]; exact h a (by omega)) nH 0 (I 582) (by omega) (fun a ha => absurd ha (by omega))
  generalize lp (fun i (p : Nat → Int32) => upd p i (stnS s nR i)) 0 nH (I 582) = p at h1 h2
  have key : ∀ n i, i + n = nH → pm_ev tb xl xs mX4_best 43 [some (.ref 0), some (.int v), some (.int (nI i))] [] (pm_G F (row I 582 p)) = some (some (.int (ff (fun i => decide (cntA s nR nH i = v)) i n)), pm_G F (row I 582 p)) := by
    intro n
    induction n with
    | zero =>
      intro i hi
      rw [eX4_best_43]
      simp only [eX4_best_0, eX4_best_1, eX4_best_4, eX4_best_7, eX4_best_8, eX4_best_9, eX4_best_11, eX4_best_12, eX4_best_15, eX4_best_18, eX4_best_21, eX4_best_22, eX4_best_25, eX4_best_26, eX4_best_27, eX4_best_30, eX4_best_31, eX4_best_34, eX4_best_35, eX4_best_38, eX4_best_41, eX4_best_42, eX4_best_44, eX4_best_45, eX4_best_48, eX4_best_51, eX4_best_54, eX4_best_55, eX4_best_56, eX4_best_59, eX4_best_60, eX4_best_63, eX4_best_64, eX4_best_65, eX4_best_68, eX4_best_71, eX4_best_74, one0, and_false, false_and, gk, gr, gi, gs, rv_some, ret_i, ret_n, Option.bind_some, List.cons_append, List.nil_append, z0, z1, zi, zj, i10, i01, true_or, or_true, eq_self, not_false_eq_true, not_true_eq_false, if_true, if_false, ite_not, Decidable.not_not, and_true, true_and, or_false, false_or, Nat.reduceLeDiff, Nat.reduceMod, Nat.reduceEqDiff, ld0 hD, ld1 hD, ld2 hD, ld3 hD, ld4 hD, ld5 hD, ld6 hD, lb0 (ldB hD), lb1 (ldB hD), lb2 (ldB hD), lb3 (ldB hD), lb4 (ldB hD), lb5 (ldB hD), lb6 (ldB hD), qH p, lt_f (show nH ≤ i by omega) (show i < 2147483648 by omega), ff]
    | succ n ih =>
      intro i hi
      have hiH : i < nH := by omega
      rw [eX4_best_43]
      have hcn := X4_huntersAheadOf_ev (xl := xl) (xs := xs) hD (hRp p) hI (fun j hj => by rw [row_s]; exact h2 j hj) hiH
      by_cases hc : cntA s nR nH i = v
      · have hd : decide (cntA s nR nH i = v) = true := decide_eq_true hc
        simp only [eX4_best_0, eX4_best_1, eX4_best_4, eX4_best_7, eX4_best_8, eX4_best_9, eX4_best_11, eX4_best_12, eX4_best_15, eX4_best_18, eX4_best_21, eX4_best_22, eX4_best_25, eX4_best_26, eX4_best_27, eX4_best_30, eX4_best_31, eX4_best_34, eX4_best_35, eX4_best_38, eX4_best_41, eX4_best_42, eX4_best_44, eX4_best_45, eX4_best_48, eX4_best_51, eX4_best_54, eX4_best_55, eX4_best_56, eX4_best_59, eX4_best_60, eX4_best_63, eX4_best_64, eX4_best_65, eX4_best_68, eX4_best_71, eX4_best_74, one0, and_false, false_and, gk, gr, gi, gs, rv_some, ret_i, ret_n, Option.bind_some, List.cons_append, List.nil_append, z0, z1, zi, zj, i10, i01, true_or, or_true, eq_self, not_false_eq_true, not_true_eq_false, if_true, if_false, ite_not, Decidable.not_not, and_true, true_and, or_false, false_or, Nat.reduceLeDiff, Nat.reduceMod, Nat.reduceEqDiff, ld0 hD, ld1 hD, ld2 hD, ld3 hD, ld4 hD, ld5 hD, ld6 hD, lb0 (ldB hD), lb1 (ldB hD), lb2 (ldB hD), lb3 (ldB hD), lb4 (ldB hD), lb5 (ldB hD), lb6 (ldB hD), qH p, lt_t hiH (show nH < 2147483648 by omega), hcn, hc, ff, decide_true]
      · have hd : ¬ decide (cntA s nR nH i = v) = true := fun q => hc (of_decide_eq_true q)
        simp only [eX4_best_0, eX4_best_1, eX4_best_4, eX4_best_7, eX4_best_8, eX4_best_9, eX4_best_11, eX4_best_12, eX4_best_15, eX4_best_18, eX4_best_21, eX4_best_22, eX4_best_25, eX4_best_26, eX4_best_27, eX4_best_30, eX4_best_31, eX4_best_34, eX4_best_35, eX4_best_38, eX4_best_41, eX4_best_42, eX4_best_44, eX4_best_45, eX4_best_48, eX4_best_51, eX4_best_54, eX4_best_55, eX4_best_56, eX4_best_59, eX4_best_60, eX4_best_63, eX4_best_64, eX4_best_65, eX4_best_68, eX4_best_71, eX4_best_74, one0, and_false, false_and, gk, gr, gi, gs, rv_some, ret_i, ret_n, Option.bind_some, List.cons_append, List.nil_append, z0, z1, zi, zj, i10, i01, true_or, or_true, eq_self, not_false_eq_true, not_true_eq_false, if_true, if_false, ite_not, Decidable.not_not, and_true, true_and, or_false, false_or, Nat.reduceLeDiff, Nat.reduceMod, Nat.reduceEqDiff, ld0 hD, ld1 hD, ld2 hD, ld3 hD, ld4 hD, ld5 hD, ld6 hD, lb0 (ldB hD), lb1 (ldB hD), lb2 (ldB hD), lb3 (ldB hD), lb4 (ldB hD), lb5 (ldB hD), lb6 (ldB hD), qH p, lt_t hiH (show nH < 2147483648 by omega), hcn, hc, ff, decide_false, nI_1]
        rw [ih (i + 1) (by omega)]
        rfl
  refine ⟨p, ?_⟩
  rw [row_self] at h1
  simp only [eX4_best_0, eX4_best_1, eX4_best_4, eX4_best_7, eX4_best_8, eX4_best_9, eX4_best_11, eX4_best_12, eX4_best_15, eX4_best_18, eX4_best_21, eX4_best_22, eX4_best_25, eX4_best_26, eX4_best_27, eX4_best_30, eX4_best_31, eX4_best_34, eX4_best_35, eX4_best_38, eX4_best_41, eX4_best_42, eX4_best_44, eX4_best_45, eX4_best_48, eX4_best_51, eX4_best_54, eX4_best_55, eX4_best_56, eX4_best_59, eX4_best_60, eX4_best_63, eX4_best_64, eX4_best_65, eX4_best_68, eX4_best_71, eX4_best_74, one0, and_false, false_and, gk, gr, gi, gs, rv_some, ret_i, ret_n, Option.bind_some, List.cons_append, List.nil_append, z0, z1, zi, zj, i10, i01, true_or, or_true, eq_self, not_false_eq_true, not_true_eq_false, if_true, if_false, ite_not, Decidable.not_not, and_true, true_and, or_false, false_or, Nat.reduceLeDiff, Nat.reduceMod, Nat.reduceEqDiff, hv]
  refine Eq.trans h1 ?_
  show pm_ev tb xl xs mX4_best 10 [some (.ref 0), some (.int v), some (.int (nI nH))] [] (pm_G F (row I 582 p)) = _
  rw [eX4_best_10]
  simp only [eX4_best_0, eX4_best_1, eX4_best_4, eX4_best_7, eX4_best_8, eX4_best_9, eX4_best_11, eX4_best_12, eX4_best_15, eX4_best_18, eX4_best_21, eX4_best_22, eX4_best_25, eX4_best_26, eX4_best_27, eX4_best_30, eX4_best_31, eX4_best_34, eX4_best_35, eX4_best_38, eX4_best_41, eX4_best_42, eX4_best_44, eX4_best_45, eX4_best_48, eX4_best_51, eX4_best_54, eX4_best_55, eX4_best_56, eX4_best_59, eX4_best_60, eX4_best_63, eX4_best_64, eX4_best_65, eX4_best_68, eX4_best_71, eX4_best_74, one0, and_false, false_and, gk, gr, gi, gs, rv_some, ret_i, ret_n, Option.bind_some, List.cons_append, List.nil_append, z0, z1, zi, zj, i10, i01, true_or, or_true, eq_self, not_false_eq_true, not_true_eq_false, if_true, if_false, ite_not, Decidable.not_not, and_true, true_and, or_false, false_or, Nat.reduceLeDiff, Nat.reduceMod, Nat.reduceEqDiff, ld0 hD, ld1 hD, ld2 hD, ld3 hD, ld4 hD, ld5 hD, ld6 hD, lb0 (ldB hD), lb1 (ldB hD), lb2 (ldB hD), lb3 (ldB hD), lb4 (ldB hD), lb5 (ldB hD), lb6 (ldB hD), qH p, lt_f (Nat.le_refl nH) (show nH < 2147483648 by omega)]
  exact key nH 0 (by omega)
end BEST

