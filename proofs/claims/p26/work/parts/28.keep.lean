/-! the model remembers; undo of both -/
def mm (I : Nat → Nat → Int32) (p q s : Nat → Int32) : Nat → Nat → Int32 := fun a => if a = 583 then q else if a = 584 then s else if a = 585 then p else I a
section KEEP
variable {xl : Nat} {xs : Nat → Int32} {F : pm_F} {I : Nat → Nat → Int32} {p q s f : Nat → Int32} {nA nH nR N n m : Nat} {H : Nat → St}
theorem mm3 : mm I p q s 583 = q := rfl
theorem mm4 : mm I p q s 584 = s := rfl
theorem mm5 : mm I p q s 585 = p := rfl
theorem mw3 : row (mm I p q s) 583 f = mm I p f s := by funext a; unfold row mm; split <;> rfl
theorem mw4 : row (mm I p q s) 584 f = mm I p q f := by
  funext a
  unfold row mm
  by_cases h : a = 584
  · subst h; rfl
  · rw [if_neg h]
    by_cases h3 : a = 583
    · rw [if_pos h3, if_pos h3]
    · rw [if_neg h3, if_neg h3, if_neg h, if_neg h]
theorem mw5 : row (mm I p q s) 585 f = mm I f q s := by
  funext a
  unfold row mm
  by_cases h : a = 585
  · subst h; rfl
  · rw [if_neg h]
    by_cases h3 : a = 583
    · rw [if_pos h3, if_pos h3]
    · by_cases h4 : a = 584
      · rw [if_neg h3, if_neg h3, if_pos h4, if_pos h4]
      · rw [if_neg h3, if_neg h3, if_neg h4, if_neg h4, if_neg h, if_neg h]
theorem mm_of (I : Nat → Nat → Int32) (s : Nat → Int32) : row I 584 s = mm I (I 585) (I 583) s := by
  funext a
  unfold row mm
  by_cases h : a = 584
  · subst h; rfl
  · rw [if_neg h]
    by_cases h3 : a = 583
    · rw [if_pos h3, h3]
    · rw [if_neg h3, if_neg h]
      by_cases h5 : a = 585
      · rw [if_pos h5, h5]
      · rw [if_neg h5]
theorem gqv {a : Nat} : gq f a = f a := rfl
theorem X4_undo_ev (hD : LD F) (hC : CHs N I (n + 1) m H) : ∃ I' m' nA nH nR, pm_ev tb xl xs mX4_undo 0 [some (.ref 0)] [] (pm_G F I) = some (some (.int (nI n)), pm_G F I') ∧ ((RB I' 1 (H n) nA nH nR ∧ FI N (H n) nA nH nR) ∧ CHs N I' n m' H) ∧ ∀ k, 582 ≤ k → I' k = I k := by
  obtain ⟨h4, h5, hm, hn, hH⟩ := hC
  obtain ⟨nA, nH, nR, hR, hF⟩ := hH n (by omega)
  have hsl : ∃ m', m' < 8 ∧ slot (n + 1) m n = 118 + 58 * m' ∧ m' = if m = 0 then 7 else m - 1 := by
    refine ⟨if m = 0 then 7 else m - 1, by split <;> omega, ?_, rfl⟩
    unfold slot
    split <;> omega
  obtain ⟨m', hm', hs, hmm⟩ := hsl
  rw [hs] at hR
  have h6 := hF.1.1.1.2
  have h8 := hF.1.1.2.1.2
  have h40 := hF.1.1.2.2.1.2
  obtain ⟨J, e, hRJ, hFJ⟩ := X1_copyFrom_ev (xl := xl) (xs := xs) (I := pm_u2 I 0 4 (nI m')) (ldB hD) (ldb hD hm') (Or.inr (by omega)) (hR.to h6 h8 h40 (fun k g1 g2 => u2_off (by omega)) (fun _ _ => rfl)) hF.1
  have j5 : J 0 5 = nI (n + 1) := by rw [hFJ 0 (by omega)]; exact h5
  have e1 : (nI (n + 1) = 0) = False := by
    have : (nI (n + 1) = nI 0) = (n + 1 = 0) := eq_iff (by omega) (by omega)
    exact this.trans (eq_false (by omega))
  have e0 : (nI m = 0) = (m = 0) := eq_iff (n := 0) (by omega) (by omega)
  have hoff : ∀ k, k ≠ 0 → pm_u2 J 0 5 (nI n) k = J k := fun k hk => u2_off hk
  refine ⟨pm_u2 J 0 5 (nI n), m', nA, nH, nR, ?_, ⟨⟨hRJ.to h6 h8 h40 (fun k g1 g2 => hoff k (by omega)) (fun _ _ => rfl), hF⟩, ?_, ?_, hm', by omega, fun j hj => ?_⟩, fun k hk => ?_⟩
  · by_cases h0 : m = 0
    · have hm7 : m' = 7 := by rw [hmm, if_pos h0]
      subst hm7
      have e' : pm_ev tb xl xs mX1_copyFrom 0 [some (.ref 1), some (.ref 524), none] [] (pm_G F (pm_u2 I 0 4 7)) = some (none, pm_G F J) := e
      have r7 : fr F 117 7 = some 524 := ldr hD hm'
      have e00 : (nI 0 = (0 : Int32)) = True := eq_true rfl
      have c7 : (7 : Int32).toNatClampNeg = 7 := by decide +kernel
      have v7 : vp_in 7 8 := ix8 hm'
      simp only [eX4_undo_0, eX4_undo_1, eX4_undo_4, eX4_undo_7, eX4_undo_10, eX4_undo_11, eX4_undo_12, eX4_undo_13, eX4_undo_16, eX4_undo_19, eX4_undo_21, eX4_undo_24, eX4_undo_25, eX4_undo_28, eX4_undo_29, eX4_undo_30, eX4_undo_33, eX4_undo_34, eX4_undo_37, eX4_undo_38, eX4_undo_41, eX4_undo_42, eX4_undo_45, eX4_undo_46, eX4_undo_49, eX4_undo_50, eX4_undo_50_i, eX4_undo_51, eX4_undo_54, eX4_undo_55, eX4_undo_56, eX4_undo_59, eX4_undo_60, eX4_undo_63, one0, and_false, false_and, gk, gr, gi, gs, rv_some, ret_i, ret_n, Option.bind_some, List.cons_append, List.nil_append, z0, z1, zi, zj, i10, i01, true_or, or_true, eq_self, not_false_eq_true, not_true_eq_false, if_true, if_false, ite_not, Decidable.not_not, and_true, true_and, or_false, false_or, Nat.reduceLeDiff, Nat.reduceMod, Nat.reduceEqDiff, ld0 hD, ld1 hD, ld3 hD, ld5 hD, lb0 (ldB hD), h4, h5, e1, e0, h0, u2_r, e00, c7, v7, r7, e', j5, sub1]
    · have hm7 : m' + 1 = m := by rw [hmm, if_neg h0]; omega
      have e2 : nI m - 1 = nI m' := by rw [← hm7]; exact sub1 m'
      simp only [eX4_undo_0, eX4_undo_1, eX4_undo_4, eX4_undo_7, eX4_undo_10, eX4_undo_11, eX4_undo_12, eX4_undo_13, eX4_undo_16, eX4_undo_19, eX4_undo_21, eX4_undo_24, eX4_undo_25, eX4_undo_28, eX4_undo_29, eX4_undo_30, eX4_undo_33, eX4_undo_34, eX4_undo_37, eX4_undo_38, eX4_undo_41, eX4_undo_42, eX4_undo_45, eX4_undo_46, eX4_undo_49, eX4_undo_50, eX4_undo_50_i, eX4_undo_51, eX4_undo_54, eX4_undo_55, eX4_undo_56, eX4_undo_59, eX4_undo_60, eX4_undo_63, one0, and_false, false_and, gk, gr, gi, gs, rv_some, ret_i, ret_n, Option.bind_some, List.cons_append, List.nil_append, z0, z1, zi, zj, i10, i01, true_or, or_true, eq_self, not_false_eq_true, not_true_eq_false, if_true, if_false, ite_not, Decidable.not_not, and_true, true_and, or_false, false_or, Nat.reduceLeDiff, Nat.reduceMod, Nat.reduceEqDiff, ld0 hD, ld1 hD, ld3 hD, ld5 hD, lb0 (ldB hD), h4, h5, e1, e0, h0, e2, u2_r, ix8 hm', cl8 hm', ldr hD hm', e, j5, sub1]
  · show pm_u2 J 0 5 (nI n) 0 4 = nI m'
    rw [u2_r, if_neg (by omega), hFJ 0 (by omega)]
    rfl
  · rfl
  · obtain ⟨a, b, c, q1, q2⟩ := hH j (by omega)
    refine ⟨a, b, c, ?_, q2⟩
    have e1 : slot n m' j = slot (n + 1) m j := by
      unfold slot
      rw [hmm]
      split <;> omega
    rw [e1]
    refine q1.to q2.1.1.1.2 q2.1.1.2.1.2 q2.1.1.2.2.1.2 (fun k g1 g2 => ?_) (fun _ _ => rfl)
    have : 118 ≤ slot (n + 1) m j := by unfold slot; omega
    rw [hoff k (by omega), hFJ k (by omega), u2_off (by omega)]
  · rw [hoff k (by omega), hFJ k (by omega), u2_off (by omega)]
end KEEP

