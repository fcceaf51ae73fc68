/-! the class alone: what its book and its memory hold, and what a call does -/
def Cl (F : pm_F) (I : Nat → Nat → Int32) (s : St) (nA nH nR n m : Nat) (H : Nat → St) : Prop := LD F ∧ RB I 1 s nA nH nR ∧ FI 400 s nA nH nR ∧ CHs 400 I n m H
/-- a call that is remembered -/
def Dd (F : pm_F) (N : Nat) (I : Nat → Nat → Int32) (s : St) (n : Nat) (H : Nat → St) (ec : pm_H → Option (Option Value × pm_H)) (v : Int32) (s' : St) (nA' nH' nR' : Nat) : Prop :=
  ∃ I1 m1, ec (pm_G F I) = some (some (.int v), pm_G F I1) ∧ Cl F I1 s' nA' nH' nR' (nx8 n) m1 (push H n s) ∧ FI (N + 1) s' nA' nH' nR' ∧ ∀ k, 582 ≤ k → I1 k = I k
def Ans (F : pm_F) (N : Nat) (I : Nat → Nat → Int32) (s : St) (n : Nat) (H : Nat → St) (ec : pm_H → Option (Option Value × pm_H)) (r : Int32 × Option (St × Nat × Nat × Nat)) : Prop := match r.2 with
  | none => ec (pm_G F I) = some (some (.int r.1), pm_G F I)
  | some q => Dd F N I s n H ec r.1 q.1 q.2.1 q.2.2.1 q.2.2.2
section CLA
variable {xl : Nat} {xs : Nat → Int32} {F : pm_F} {I : Nat → Nat → Int32} {N : Nat} {s s' : St} {nA nH nR nA' nH' nR' n m : Nat} {H : Nat → St} {v : Int32}
variable {ec : pm_H → Option (Option Value × pm_H)}
theorem deed (hcl : Cl F I s nA nH nR n m H) (hN : N < 400) (hF' : FI (N + 1) s' nA' nH' nR')
    (hc : ∃ I1 m', ec (pm_G F I) = some (some (.int v), pm_G F I1) ∧ (RB I1 1 s' nA' nH' nR' ∧ CHs 400 I1 (nx8 n) m' (push H n s)) ∧ ∀ k, 582 ≤ k → I1 k = I k) : Dd F N I s n H ec v s' nA' nH' nR' := by
  obtain ⟨I1, m', e, ⟨hR, hC⟩, hk⟩ := hc
  exact ⟨I1, m', e, ⟨hcl.1, hR, hF'.mono (by omega), hC⟩, hF', hk⟩
/-- the call before is undone -/
theorem op_undo (hcl : Cl F I s nA nH nR (n + 1) m H) : ∃ I1 m1 a b c, pm_ev tb xl xs mX4_undo 0 [some (.ref 0)] [] (pm_G F I) = some (some (.int (nI n)), pm_G F I1) ∧ Cl F I1 (H n) a b c n m1 H ∧ ∀ k, 582 ≤ k → I1 k = I k := by
  obtain ⟨hD, hR, hF, hC⟩ := hcl
  obtain ⟨I1, m', a, b, c, e1, ⟨⟨hR1, hF1⟩, hC1⟩, hk⟩ := X4_undo_ev (xl := xl) (xs := xs) hD hC
  exact ⟨I1, m', a, b, c, e1, ⟨hD, hR1, hF1, hC1⟩, hk⟩
theorem op_undo0 (hcl : Cl F I s nA nH nR 0 m H) : pm_ev tb xl xs mX4_undo 0 [some (.ref 0)] [] (pm_G F I) = some (some (.int (-10002)), pm_G F I) := by
  obtain ⟨hD, hR, hF, hC⟩ := hcl
  have h1 : I 0 5 = nI 0 := hC.2.1
  have e0 : (nI 0 = (0 : Int32)) = True := eq_true rfl
  simp only [eX4_undo_0, eX4_undo_1, eX4_undo_4, eX4_undo_7, eX4_undo_10, eX4_undo_11, eX4_undo_12, eX4_undo_13, eX4_undo_16, eX4_undo_19, eX4_undo_21, eX4_undo_24, eX4_undo_25, eX4_undo_28, eX4_undo_29, eX4_undo_30, eX4_undo_33, eX4_undo_34, eX4_undo_37, eX4_undo_38, eX4_undo_41, eX4_undo_42, eX4_undo_45, eX4_undo_46, eX4_undo_49, eX4_undo_50, eX4_undo_50_i, eX4_undo_51, eX4_undo_54, eX4_undo_55, eX4_undo_56, eX4_undo_59, eX4_undo_60, eX4_undo_63, one0, and_false, false_and, gk, gr, gi, gs, rv_some, ret_i, ret_n, Option.bind_some, List.cons_append, List.nil_append, z0, z1, zi, zj, i10, i01, true_or, or_true, eq_self, not_false_eq_true, not_true_eq_false, if_true, if_false, ite_not, Decidable.not_not, and_true, true_and, or_false, false_or, Nat.reduceLeDiff, Nat.reduceMod, Nat.reduceEqDiff, ld0 hD, ld1 hD, ld2 hD, ld3 hD, ld4 hD, ld5 hD, ld6 hD, lb0 (ldB hD), lb1 (ldB hD), lb2 (ldB hD), lb3 (ldB hD), lb4 (ldB hD), lb5 (ldB hD), lb6 (ldB hD), h1, e0]
def o_fill (s : St) (nA nH nR : Nat) (v : Int32) : Int32 × Option (St × Nat × Nat × Nat) := if v < 1 ∨ 100000 < v then (-10001, none) else if 1000000 < gp s 1 + v then (-10002, none) else (gp s 1 + v, some (sG s 1 (gp s 1 + v), nA, nH, nR))
theorem op_fill (hcl : Cl F I s nA nH nR n m H) (hFI : FI N s nA nH nR) (hN : N < 400) (v : Int32) : Ans F N I s n H (fun M => pm_ev tb xl xs mX4_fill 0 [some (.ref 0), some (.int v)] [] M) (o_fill s nA nH nR v) := by
  have hD := hcl.1
  have hR := hcl.2.1
  have hF4 := hcl.2.2.1
  have hC := hcl.2.2.2
  have hB := ldB hD
  have h6 := hFI.1.1.1.2
  have h8 := hFI.1.1.2.1.2
  have h40 := hFI.1.1.2.2.1.2
  have hnA := hFI.1.1.1.1
  have hnH := hFI.1.1.2.1.1
  have hnR := hFI.1.1.2.2.1.1
  have qA : I 1 3 = nI nA := (rbg3 hR).trans hnA
  have qH : I 1 4 = nI nH := (rbg4 hR).trans hnH
  have qR : I 1 5 = nI nR := (rbg5 hR).trans hnR
  have hrb := hFI.rb
  unfold o_fill
  by_cases h1 : v < 1 ∨ 100000 < v
  · rw [if_pos h1]
    show _ = _
    simp only [eX4_fill_0, eX4_fill_1, eX4_fill_2, eX4_fill_4, eX4_fill_7, eX4_fill_10, eX4_fill_13, eX4_fill_14, eX4_fill_15, eX4_fill_18, eX4_fill_21, eX4_fill_22, eX4_fill_23, eX4_fill_25, eX4_fill_28, eX4_fill_31, eX4_fill_32, eX4_fill_33, eX4_fill_36, eX4_fill_37, eX4_fill_40, eX4_fill_40_i, eX4_fill_41, eX4_fill_44, eX4_fill_45, eX4_fill_46, eX4_fill_49, eX4_fill_50, eX4_fill_53, eX4_fill_56, one0, and_false, false_and, gk, gr, gi, gs, rv_some, ret_i, ret_n, Option.bind_some, List.cons_append, List.nil_append, z0, z1, zi, zj, i10, i01, true_or, or_true, eq_self, not_false_eq_true, not_true_eq_false, if_true, if_false, ite_not, Decidable.not_not, and_true, true_and, or_false, false_or, Nat.reduceLeDiff, Nat.reduceMod, Nat.reduceEqDiff, ld0 hD, ld1 hD, ld2 hD, ld3 hD, ld4 hD, ld5 hD, ld6 hD, lb0 (ldB hD), lb1 (ldB hD), lb2 (ldB hD), lb3 (ldB hD), lb4 (ldB hD), lb5 (ldB hD), lb6 (ldB hD), X4_isOutside_ev, h1]
  · rw [if_neg h1]
    by_cases h2 : 1000000 < gp s 1 + v
    · rw [if_pos h2]
      show _ = _
      simp only [eX4_fill_0, eX4_fill_1, eX4_fill_2, eX4_fill_4, eX4_fill_7, eX4_fill_10, eX4_fill_13, eX4_fill_14, eX4_fill_15, eX4_fill_18, eX4_fill_21, eX4_fill_22, eX4_fill_23, eX4_fill_25, eX4_fill_28, eX4_fill_31, eX4_fill_32, eX4_fill_33, eX4_fill_36, eX4_fill_37, eX4_fill_40, eX4_fill_40_i, eX4_fill_41, eX4_fill_44, eX4_fill_45, eX4_fill_46, eX4_fill_49, eX4_fill_50, eX4_fill_53, eX4_fill_56, one0, and_false, false_and, gk, gr, gi, gs, rv_some, ret_i, ret_n, Option.bind_some, List.cons_append, List.nil_append, z0, z1, zi, zj, i10, i01, true_or, or_true, eq_self, not_false_eq_true, not_true_eq_false, if_true, if_false, ite_not, Decidable.not_not, and_true, true_and, or_false, false_or, Nat.reduceLeDiff, Nat.reduceMod, Nat.reduceEqDiff, ld0 hD, ld1 hD, ld2 hD, ld3 hD, ld4 hD, ld5 hD, ld6 hD, lb0 (ldB hD), lb1 (ldB hD), lb2 (ldB hD), lb3 (ldB hD), lb4 (ldB hD), lb5 (ldB hD), lb6 (ldB hD), rbg3 hR, rbg4 hR, rbg5 hR, rbg6 hR, rbg7 hR, rbg8 hR, rbg9 hR, rbg10 hR, rbg11 hR, X4_isOutside_ev, h1, h2]
    · rw [if_neg h2]
      refine deed hcl hN ?_ ?_
      · obtain ⟨w, rfl, hw1, hw2⟩ := rng_of (a := 1) (b := 100000) (by omega) (by omega) h1
        obtain ⟨x, hx, hgx⟩ := vp_in_of hFI.2.1.2.1 (by omega)
        rw [hgx, nI_add] at h2 ⊢
        have h3 : ¬ 1000000 < x + w := by
          rw [show ((1000000 : Int32) < nI (x + w)) = (1000000 < x + w) from lt_iff (i := 1000000) (by omega) (by omega)] at h2
          exact h2
        refine ⟨hFI.1.wG (by decide) (by decide) (by decide) (by decide), hFI.2.of ?_ (fun a ha j hj => ap_sG (by decide)) (fun h hh j hj => hp_sG (by decide)) h8 (by omega) (by omega)⟩
        simp only [gp_sG, Nat.reduceEqDiff, if_true, if_false]
        exact ⟨hFI.2.1.1, in_n (by omega) (by omega), hFI.2.1.2.2⟩
      · obtain ⟨J, m', e, ⟨hRJ, hCJ⟩, hk⟩ := X4_remember_ev (xl := xl) (xs := xs) hD hR hF4 hC
        obtain ⟨g1, g2⟩ := behind (K := pm_u2 J 1 7 (gp s 1 + v)) hCJ hk (Fr.rf.u2 (by omega))
        refine ⟨_, m', ?_, ⟨hRJ.wg7 h6 h8 h40, g1⟩, g2⟩
        simp only [eX4_fill_0, eX4_fill_1, eX4_fill_2, eX4_fill_4, eX4_fill_7, eX4_fill_10, eX4_fill_13, eX4_fill_14, eX4_fill_15, eX4_fill_18, eX4_fill_21, eX4_fill_22, eX4_fill_23, eX4_fill_25, eX4_fill_28, eX4_fill_31, eX4_fill_32, eX4_fill_33, eX4_fill_36, eX4_fill_37, eX4_fill_40, eX4_fill_40_i, eX4_fill_41, eX4_fill_44, eX4_fill_45, eX4_fill_46, eX4_fill_49, eX4_fill_50, eX4_fill_53, eX4_fill_56, one0, and_false, false_and, gk, gr, gi, gs, rv_some, ret_i, ret_n, Option.bind_some, List.cons_append, List.nil_append, z0, z1, zi, zj, i10, i01, true_or, or_true, eq_self, not_false_eq_true, not_true_eq_false, if_true, if_false, ite_not, Decidable.not_not, and_true, true_and, or_false, false_or, Nat.reduceLeDiff, Nat.reduceMod, Nat.reduceEqDiff, ld0 hD, ld1 hD, ld2 hD, ld3 hD, ld4 hD, ld5 hD, ld6 hD, lb0 (ldB hD), lb1 (ldB hD), lb2 (ldB hD), lb3 (ldB hD), lb4 (ldB hD), lb5 (ldB hD), lb6 (ldB hD), rbg3 hR, rbg4 hR, rbg5 hR, rbg6 hR, rbg7 hR, rbg8 hR, rbg9 hR, rbg10 hR, rbg11 hR, X4_isOutside_ev, h1, h2, e, rbg7 hRJ, u2_r]
def o_rate (s : St) (nA nH nR : Nat) (v : Int32) : Int32 × Option (St × Nat × Nat × Nat) := if v < 50 ∨ 200 < v then (-10001, none) else (gp s 2, some (sG s 2 v, nA, nH, nR))
theorem op_setRate (hcl : Cl F I s nA nH nR n m H) (hFI : FI N s nA nH nR) (hN : N < 400) (v : Int32) : Ans F N I s n H (fun M => pm_ev tb xl xs mX4_setRate 0 [some (.ref 0), some (.int v), none] [] M) (o_rate s nA nH nR v) := by
  have hD := hcl.1
  have hR := hcl.2.1
  have hF4 := hcl.2.2.1
  have hC := hcl.2.2.2
  have hB := ldB hD
  have h6 := hFI.1.1.1.2
  have h8 := hFI.1.1.2.1.2
  have h40 := hFI.1.1.2.2.1.2
  have hnA := hFI.1.1.1.1
  have hnH := hFI.1.1.2.1.1
  have hnR := hFI.1.1.2.2.1.1
  have qA : I 1 3 = nI nA := (rbg3 hR).trans hnA
  have qH : I 1 4 = nI nH := (rbg4 hR).trans hnH
  have qR : I 1 5 = nI nR := (rbg5 hR).trans hnR
  have hrb := hFI.rb
  unfold o_rate
  by_cases h1 : v < 50 ∨ 200 < v
  · rw [if_pos h1]
    show _ = _
    simp only [eX4_setRate_0, eX4_setRate_1, eX4_setRate_3, eX4_setRate_6, eX4_setRate_9, eX4_setRate_12, eX4_setRate_15, eX4_setRate_16, eX4_setRate_17, eX4_setRate_20, eX4_setRate_21, eX4_setRate_24, eX4_setRate_27, eX4_setRate_28, eX4_setRate_29, eX4_setRate_32, eX4_setRate_33, eX4_setRate_36, eX4_setRate_37, one0, and_false, false_and, gk, gr, gi, gs, rv_some, ret_i, ret_n, Option.bind_some, List.cons_append, List.nil_append, z0, z1, zi, zj, i10, i01, true_or, or_true, eq_self, not_false_eq_true, not_true_eq_false, if_true, if_false, ite_not, Decidable.not_not, and_true, true_and, or_false, false_or, Nat.reduceLeDiff, Nat.reduceMod, Nat.reduceEqDiff, ld0 hD, ld1 hD, ld2 hD, ld3 hD, ld4 hD, ld5 hD, ld6 hD, lb0 (ldB hD), lb1 (ldB hD), lb2 (ldB hD), lb3 (ldB hD), lb4 (ldB hD), lb5 (ldB hD), lb6 (ldB hD), X4_isOutside_ev, h1]
  · rw [if_neg h1]
    refine deed hcl hN ?_ ?_
    · obtain ⟨w, rfl, hw1, hw2⟩ := rng_of (a := 50) (b := 200) (by omega) (by omega) h1
      refine ⟨hFI.1.wG (by decide) (by decide) (by decide) (by decide), hFI.2.of ?_ (fun a ha j hj => ap_sG (by decide)) (fun h hh j hj => hp_sG (by decide)) h8 (by omega) (by omega)⟩
      simp only [gp_sG, Nat.reduceEqDiff, if_true, if_false]
      exact ⟨hFI.2.1.1, hFI.2.1.2.1, ⟨in_n (by omega) (by omega), nI_nlt (a := w) (b := 50) hw1 (by omega)⟩, hFI.2.1.2.2.2⟩
    · obtain ⟨J, m', e, ⟨hRJ, hCJ⟩, hk⟩ := X4_remember_ev (xl := xl) (xs := xs) hD hR hF4 hC
      obtain ⟨g1, g2⟩ := behind (K := pm_u2 J 1 8 v) hCJ hk (Fr.rf.u2 (by omega))
      refine ⟨_, m', ?_, ⟨hRJ.wg8 h6 h8 h40, g1⟩, g2⟩
      simp only [eX4_setRate_0, eX4_setRate_1, eX4_setRate_3, eX4_setRate_6, eX4_setRate_9, eX4_setRate_12, eX4_setRate_15, eX4_setRate_16, eX4_setRate_17, eX4_setRate_20, eX4_setRate_21, eX4_setRate_24, eX4_setRate_27, eX4_setRate_28, eX4_setRate_29, eX4_setRate_32, eX4_setRate_33, eX4_setRate_36, eX4_setRate_37, one0, and_false, false_and, gk, gr, gi, gs, rv_some, ret_i, ret_n, Option.bind_some, List.cons_append, List.nil_append, z0, z1, zi, zj, i10, i01, true_or, or_true, eq_self, not_false_eq_true, not_true_eq_false, if_true, if_false, ite_not, Decidable.not_not, and_true, true_and, or_false, false_or, Nat.reduceLeDiff, Nat.reduceMod, Nat.reduceEqDiff, ld0 hD, ld1 hD, ld2 hD, ld3 hD, ld4 hD, ld5 hD, ld6 hD, lb0 (ldB hD), lb1 (ldB hD), lb2 (ldB hD), lb3 (ldB hD), lb4 (ldB hD), lb5 (ldB hD), lb6 (ldB hD), rbg3 hR, rbg4 hR, rbg5 hR, rbg6 hR, rbg7 hR, rbg8 hR, rbg9 hR, rbg10 hR, rbg11 hR, X4_isOutside_ev, h1, e, rbg8 hRJ, u2_r]
def o_bonus (s : St) (nA nH nR : Nat) (v : Int32) : Int32 × Option (St × Nat × Nat × Nat) := if v < 0 ∨ 500 < v then (-10001, none) else (gp s 3, some (sG s 3 v, nA, nH, nR))
theorem op_setBonus (hcl : Cl F I s nA nH nR n m H) (hFI : FI N s nA nH nR) (hN : N < 400) (v : Int32) : Ans F N I s n H (fun M => pm_ev tb xl xs mX4_setBonus 0 [some (.ref 0), some (.int v), none] [] M) (o_bonus s nA nH nR v) := by
  have hD := hcl.1
  have hR := hcl.2.1
  have hF4 := hcl.2.2.1
  have hC := hcl.2.2.2
  have hB := ldB hD
  have h6 := hFI.1.1.1.2
  have h8 := hFI.1.1.2.1.2
  have h40 := hFI.1.1.2.2.1.2
  have hnA := hFI.1.1.1.1
  have hnH := hFI.1.1.2.1.1
  have hnR := hFI.1.1.2.2.1.1
  have qA : I 1 3 = nI nA := (rbg3 hR).trans hnA
  have qH : I 1 4 = nI nH := (rbg4 hR).trans hnH
  have qR : I 1 5 = nI nR := (rbg5 hR).trans hnR
  have hrb := hFI.rb
  unfold o_bonus
  by_cases h1 : v < 0 ∨ 500 < v
  · rw [if_pos h1]
    show _ = _
    simp only [eX4_setBonus_0, eX4_setBonus_1, eX4_setBonus_2, eX4_setBonus_5, eX4_setBonus_8, eX4_setBonus_11, eX4_setBonus_14, eX4_setBonus_15, eX4_setBonus_16, eX4_setBonus_19, eX4_setBonus_20, eX4_setBonus_23, eX4_setBonus_26, eX4_setBonus_27, eX4_setBonus_28, eX4_setBonus_31, eX4_setBonus_32, eX4_setBonus_35, eX4_setBonus_36, one0, and_false, false_and, gk, gr, gi, gs, rv_some, ret_i, ret_n, Option.bind_some, List.cons_append, List.nil_append, z0, z1, zi, zj, i10, i01, true_or, or_true, eq_self, not_false_eq_true, not_true_eq_false, if_true, if_false, ite_not, Decidable.not_not, and_true, true_and, or_false, false_or, Nat.reduceLeDiff, Nat.reduceMod, Nat.reduceEqDiff, ld0 hD, ld1 hD, ld2 hD, ld3 hD, ld4 hD, ld5 hD, ld6 hD, lb0 (ldB hD), lb1 (ldB hD), lb2 (ldB hD), lb3 (ldB hD), lb4 (ldB hD), lb5 (ldB hD), lb6 (ldB hD), X4_isOutside_ev, h1]
  · rw [if_neg h1]
    refine deed hcl hN ?_ ?_
    · obtain ⟨w, rfl, hw1, hw2⟩ := rng_of (a := 0) (b := 500) (by omega) (by omega) h1
      refine ⟨hFI.1.wG (by decide) (by decide) (by decide) (by decide), hFI.2.of ?_ (fun a ha j hj => ap_sG (by decide)) (fun h hh j hj => hp_sG (by decide)) h8 (by omega) (by omega)⟩
      simp only [gp_sG, Nat.reduceEqDiff, if_true, if_false]
      exact ⟨hFI.2.1.1, hFI.2.1.2.1, hFI.2.1.2.2.1, in_n (by omega) (by omega)⟩
    · obtain ⟨J, m', e, ⟨hRJ, hCJ⟩, hk⟩ := X4_remember_ev (xl := xl) (xs := xs) hD hR hF4 hC
      obtain ⟨g1, g2⟩ := behind (K := pm_u2 J 1 9 v) hCJ hk (Fr.rf.u2 (by omega))
      refine ⟨_, m', ?_, ⟨hRJ.wg9 h6 h8 h40, g1⟩, g2⟩
      simp only [eX4_setBonus_0, eX4_setBonus_1, eX4_setBonus_2, eX4_setBonus_5, eX4_setBonus_8, eX4_setBonus_11, eX4_setBonus_14, eX4_setBonus_15, eX4_setBonus_16, eX4_setBonus_19, eX4_setBonus_20, eX4_setBonus_23, eX4_setBonus_26, eX4_setBonus_27, eX4_setBonus_28, eX4_setBonus_31, eX4_setBonus_32, eX4_setBonus_35, eX4_setBonus_36, one0, and_false, false_and, gk, gr, gi, gs, rv_some, ret_i, ret_n, Option.bind_some, List.cons_append, List.nil_append, z0, z1, zi, zj, i10, i01, true_or, or_true, eq_self, not_false_eq_true, not_true_eq_false, if_true, if_false, ite_not, Decidable.not_not, and_true, true_and, or_false, false_or, Nat.reduceLeDiff, Nat.reduceMod, Nat.reduceEqDiff, ld0 hD, ld1 hD, ld2 hD, ld3 hD, ld4 hD, ld5 hD, ld6 hD, lb0 (ldB hD), lb1 (ldB hD), lb2 (ldB hD), lb3 (ldB hD), lb4 (ldB hD), lb5 (ldB hD), lb6 (ldB hD), rbg3 hR, rbg4 hR, rbg5 hR, rbg6 hR, rbg7 hR, rbg8 hR, rbg9 hR, rbg10 hR, rbg11 hR, X4_isOutside_ev, h1, e, rbg9 hRJ, u2_r]
def o_asset (s : St) (nA nH nR : Nat) (v w : Int32) : Int32 × Option (St × Nat × Nat × Nat) := if v < 1 ∨ 9 < v then (-10001, none) else if w < 0 ∨ 10000 < w then (-10001, none) else if nA < 6 then (nI nA, some (opnA s nA v w, nA + 1, nH, nR)) else (-10003, none)
theorem op_addAsset (hcl : Cl F I s nA nH nR n m H) (hFI : FI N s nA nH nR) (hN : N < 400) (v w : Int32) : Ans F N I s n H (fun M => pm_ev tb xl xs mX4_addAsset 0 [some (.ref 0), some (.int v), some (.int w)] [] M) (o_asset s nA nH nR v w) := by
  have hD := hcl.1
  have hR := hcl.2.1
  have hF4 := hcl.2.2.1
  have hC := hcl.2.2.2
  have hB := ldB hD
  have h6 := hFI.1.1.1.2
  have h8 := hFI.1.1.2.1.2
  have h40 := hFI.1.1.2.2.1.2
  have hnA := hFI.1.1.1.1
  have hnH := hFI.1.1.2.1.1
  have hnR := hFI.1.1.2.2.1.1
  have qA : I 1 3 = nI nA := (rbg3 hR).trans hnA
  have qH : I 1 4 = nI nH := (rbg4 hR).trans hnH
  have qR : I 1 5 = nI nR := (rbg5 hR).trans hnR
  have hrb := hFI.rb
  unfold o_asset
  by_cases h1 : v < 1 ∨ 9 < v
  · rw [if_pos h1]
    show _ = _
    simp only [eX4_addAsset_0, eX4_addAsset_1, eX4_addAsset_2, eX4_addAsset_4, eX4_addAsset_7, eX4_addAsset_10, eX4_addAsset_11, eX4_addAsset_12, eX4_addAsset_15, eX4_addAsset_18, eX4_addAsset_21, eX4_addAsset_24, eX4_addAsset_25, eX4_addAsset_26, eX4_addAsset_29, eX4_addAsset_32, eX4_addAsset_34, eX4_addAsset_37, eX4_addAsset_40, eX4_addAsset_41, eX4_addAsset_42, eX4_addAsset_45, eX4_addAsset_46, eX4_addAsset_49, eX4_addAsset_50, eX4_addAsset_51, eX4_addAsset_54, one0, and_false, false_and, gk, gr, gi, gs, rv_some, ret_i, ret_n, Option.bind_some, List.cons_append, List.nil_append, z0, z1, zi, zj, i10, i01, true_or, or_true, eq_self, not_false_eq_true, not_true_eq_false, if_true, if_false, ite_not, Decidable.not_not, and_true, true_and, or_false, false_or, Nat.reduceLeDiff, Nat.reduceMod, Nat.reduceEqDiff, ld0 hD, ld1 hD, ld2 hD, ld3 hD, ld4 hD, ld5 hD, ld6 hD, lb0 (ldB hD), lb1 (ldB hD), lb2 (ldB hD), lb3 (ldB hD), lb4 (ldB hD), lb5 (ldB hD), lb6 (ldB hD), X4_isOutside_ev, h1]
  · rw [if_neg h1]
    by_cases h2 : w < 0 ∨ 10000 < w
    · rw [if_pos h2]
      show _ = _
      simp only [eX4_addAsset_0, eX4_addAsset_1, eX4_addAsset_2, eX4_addAsset_4, eX4_addAsset_7, eX4_addAsset_10, eX4_addAsset_11, eX4_addAsset_12, eX4_addAsset_15, eX4_addAsset_18, eX4_addAsset_21, eX4_addAsset_24, eX4_addAsset_25, eX4_addAsset_26, eX4_addAsset_29, eX4_addAsset_32, eX4_addAsset_34, eX4_addAsset_37, eX4_addAsset_40, eX4_addAsset_41, eX4_addAsset_42, eX4_addAsset_45, eX4_addAsset_46, eX4_addAsset_49, eX4_addAsset_50, eX4_addAsset_51, eX4_addAsset_54, one0, and_false, false_and, gk, gr, gi, gs, rv_some, ret_i, ret_n, Option.bind_some, List.cons_append, List.nil_append, z0, z1, zi, zj, i10, i01, true_or, or_true, eq_self, not_false_eq_true, not_true_eq_false, if_true, if_false, ite_not, Decidable.not_not, and_true, true_and, or_false, false_or, Nat.reduceLeDiff, Nat.reduceMod, Nat.reduceEqDiff, ld0 hD, ld1 hD, ld2 hD, ld3 hD, ld4 hD, ld5 hD, ld6 hD, lb0 (ldB hD), lb1 (ldB hD), lb2 (ldB hD), lb3 (ldB hD), lb4 (ldB hD), lb5 (ldB hD), lb6 (ldB hD), X4_isOutside_ev, h1, h2]
    · rw [if_neg h2]
      have c1 : (nI nA < 6) = (nA < 6) := lt_iff (n := 6) (by omega) (by omega)
      by_cases h3 : nA < 6
      · rw [if_pos h3]
        refine deed hcl hN ?_ ?_
        · obtain ⟨x, rfl, hx1, hx2⟩ := rng_of (a := 1) (b := 9) (by omega) (by omega) h1
          obtain ⟨y, rfl, hy1, hy2⟩ := rng_of (a := 0) (b := 10000) (by omega) (by omega) h2
          exact (hFI.mono (Nat.le_succ N)).opA h3 hx1 (by omega) (by omega)
        · obtain ⟨J, m', e, ⟨hRJ, hCJ⟩, hk⟩ := X4_remember_ev (xl := xl) (xs := xs) hD hR hF4 hC
          obtain ⟨K, e2, hRK, hFK⟩ := X1_openAsset_ev (xl := xl) (xs := xs) hB hRJ hFI.1 h3 (w := v) (al := w)
          obtain ⟨g1, g2⟩ := behind hCJ hk hFK
          refine ⟨K, m', ?_, ⟨hRK, g1⟩, g2⟩
          simp only [eX4_addAsset_0, eX4_addAsset_1, eX4_addAsset_2, eX4_addAsset_4, eX4_addAsset_7, eX4_addAsset_10, eX4_addAsset_11, eX4_addAsset_12, eX4_addAsset_15, eX4_addAsset_18, eX4_addAsset_21, eX4_addAsset_24, eX4_addAsset_25, eX4_addAsset_26, eX4_addAsset_29, eX4_addAsset_32, eX4_addAsset_34, eX4_addAsset_37, eX4_addAsset_40, eX4_addAsset_41, eX4_addAsset_42, eX4_addAsset_45, eX4_addAsset_46, eX4_addAsset_49, eX4_addAsset_50, eX4_addAsset_51, eX4_addAsset_54, one0, and_false, false_and, gk, gr, gi, gs, rv_some, ret_i, ret_n, Option.bind_some, List.cons_append, List.nil_append, z0, z1, zi, zj, i10, i01, true_or, or_true, eq_self, not_false_eq_true, not_true_eq_false, if_true, if_false, ite_not, Decidable.not_not, and_true, true_and, or_false, false_or, Nat.reduceLeDiff, Nat.reduceMod, Nat.reduceEqDiff, ld0 hD, ld1 hD, ld2 hD, ld3 hD, ld4 hD, ld5 hD, ld6 hD, lb0 (ldB hD), lb1 (ldB hD), lb2 (ldB hD), lb3 (ldB hD), lb4 (ldB hD), lb5 (ldB hD), lb6 (ldB hD), qA, X4_isOutside_ev, h1, h2, c1, h3, e, e2]
      · rw [if_neg h3]
        show _ = _
        simp only [eX4_addAsset_0, eX4_addAsset_1, eX4_addAsset_2, eX4_addAsset_4, eX4_addAsset_7, eX4_addAsset_10, eX4_addAsset_11, eX4_addAsset_12, eX4_addAsset_15, eX4_addAsset_18, eX4_addAsset_21, eX4_addAsset_24, eX4_addAsset_25, eX4_addAsset_26, eX4_addAsset_29, eX4_addAsset_32, eX4_addAsset_34, eX4_addAsset_37, eX4_addAsset_40, eX4_addAsset_41, eX4_addAsset_42, eX4_addAsset_45, eX4_addAsset_46, eX4_addAsset_49, eX4_addAsset_50, eX4_addAsset_51, eX4_addAsset_54, one0, and_false, false_and, gk, gr, gi, gs, rv_some, ret_i, ret_n, Option.bind_some, List.cons_append, List.nil_append, z0, z1, zi, zj, i10, i01, true_or, or_true, eq_self, not_false_eq_true, not_true_eq_false, if_true, if_false, ite_not, Decidable.not_not, and_true, true_and, or_false, false_or, Nat.reduceLeDiff, Nat.reduceMod, Nat.reduceEqDiff, ld0 hD, ld1 hD, ld2 hD, ld3 hD, ld4 hD, ld5 hD, ld6 hD, lb0 (ldB hD), lb1 (ldB hD), lb2 (ldB hD), lb3 (ldB hD), lb4 (ldB hD), lb5 (ldB hD), lb6 (ldB hD), qA, X4_isOutside_ev, h1, h2, c1, h3]
def o_hunter (s : St) (nA nH nR : Nat) : Int32 × Option (St × Nat × Nat × Nat) := if nH < 8 then (nI nH, some (opnH s, nA, nH + 1, nR)) else (-10003, none)
theorem op_addHunter (hcl : Cl F I s nA nH nR n m H) (hFI : FI N s nA nH nR) (hN : N < 400) : Ans F N I s n H (fun M => pm_ev tb xl xs mX4_addHunter 0 [some (.ref 0)] [] M) (o_hunter s nA nH nR) := by
  have hD := hcl.1
  have hR := hcl.2.1
  have hF4 := hcl.2.2.1
  have hC := hcl.2.2.2
  have hB := ldB hD
  have h6 := hFI.1.1.1.2
  have h8 := hFI.1.1.2.1.2
  have h40 := hFI.1.1.2.2.1.2
  have hnA := hFI.1.1.1.1
  have hnH := hFI.1.1.2.1.1
  have hnR := hFI.1.1.2.2.1.1
  have qA : I 1 3 = nI nA := (rbg3 hR).trans hnA
  have qH : I 1 4 = nI nH := (rbg4 hR).trans hnH
  have qR : I 1 5 = nI nR := (rbg5 hR).trans hnR
  have hrb := hFI.rb
  unfold o_hunter
  have c1 : (nI nH < 8) = (nH < 8) := lt_iff (n := 8) (by omega) (by omega)
  by_cases h3 : nH < 8
  · rw [if_pos h3]
    have hz : ∀ j, j < 4 → hp s nH j = 0 := fun j hj => hFI.2.2.2.2 nH (by omega) h3 j hj
    refine deed hcl hN ?_ ?_
    · exact (hFI.mono (Nat.le_succ N)).opH (by omega) h3
    · obtain ⟨J, m', e, ⟨hRJ, hCJ⟩, hk⟩ := X4_remember_ev (xl := xl) (xs := xs) hD hR hF4 hC
      obtain ⟨K, e2, hRK, hFK⟩ := X1_openHunter_ev (xl := xl) (xs := xs) hB hRJ hFI.1 h3 hz
      obtain ⟨g1, g2⟩ := behind hCJ hk hFK
      refine ⟨K, m', ?_, ⟨hRK, g1⟩, g2⟩
      simp only [eX4_addHunter_0, eX4_addHunter_1, eX4_addHunter_4, eX4_addHunter_7, eX4_addHunter_9, eX4_addHunter_12, eX4_addHunter_15, eX4_addHunter_16, eX4_addHunter_17, eX4_addHunter_20, eX4_addHunter_21, eX4_addHunter_24, eX4_addHunter_27, one0, and_false, false_and, gk, gr, gi, gs, rv_some, ret_i, ret_n, Option.bind_some, List.cons_append, List.nil_append, z0, z1, zi, zj, i10, i01, true_or, or_true, eq_self, not_false_eq_true, not_true_eq_false, if_true, if_false, ite_not, Decidable.not_not, and_true, true_and, or_false, false_or, Nat.reduceLeDiff, Nat.reduceMod, Nat.reduceEqDiff, ld0 hD, ld1 hD, ld2 hD, ld3 hD, ld4 hD, ld5 hD, ld6 hD, lb0 (ldB hD), lb1 (ldB hD), lb2 (ldB hD), lb3 (ldB hD), lb4 (ldB hD), lb5 (ldB hD), lb6 (ldB hD), qH, c1, h3, e, e2]
  · rw [if_neg h3]
    show _ = _
    simp only [eX4_addHunter_0, eX4_addHunter_1, eX4_addHunter_4, eX4_addHunter_7, eX4_addHunter_9, eX4_addHunter_12, eX4_addHunter_15, eX4_addHunter_16, eX4_addHunter_17, eX4_addHunter_20, eX4_addHunter_21, eX4_addHunter_24, eX4_addHunter_27, one0, and_false, false_and, gk, gr, gi, gs, rv_some, ret_i, ret_n, Option.bind_some, List.cons_append, List.nil_append, z0, z1, zi, zj, i10, i01, true_or, or_true, eq_self, not_false_eq_true, not_true_eq_false, if_true, if_false, ite_not, Decidable.not_not, and_true, true_and, or_false, false_or, Nat.reduceLeDiff, Nat.reduceMod, Nat.reduceEqDiff, ld0 hD, ld1 hD, ld2 hD, ld3 hD, ld4 hD, ld5 hD, ld6 hD, lb0 (ldB hD), lb1 (ldB hD), lb2 (ldB hD), lb3 (ldB hD), lb4 (ldB hD), lb5 (ldB hD), lb6 (ldB hD), qH, c1, h3]
end CLA
