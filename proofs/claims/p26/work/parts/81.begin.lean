/-! the law from its start -/
def s00 : St := fun k => if k = 2 then 100 else if k = 3 then 20 else 0
section BEGIN2
variable {xl : Nat} {xs : Nat → Int32}
theorem PI0 : PI 0 s00 0 0 0 := by
  have g0 : gp s00 0 = 0 := rfl
  refine ⟨⟨⟨⟨⟨rfl, by omega⟩, ⟨rfl, by omega⟩, ⟨rfl, by omega⟩, fun a ha => absurd ha (by omega)⟩, fun a ha => absurd ha (by omega)⟩, ⟨?_, ?_, ⟨?_, ?_⟩, ?_⟩, fun a ha => absurd ha (by omega), fun a ha => absurd ha (by omega), fun h _ hh j hj => ?_⟩, fun k hk => absurd hk (by omega), fun k hk => absurd hk (by omega), fun k hk => absurd hk (by omega), rfl, ?_, ?_⟩
  · exact in_n (k := 0) (by omega) (by omega)
  · rw [g0]; exact in_n (k := 0) (by omega) (by show 1000001 + 120000 * (0 / 90) < 2147483648; omega)
  · exact in_n (k := 100) (by omega) (by omega)
  · show ¬ (100 : Int32) < 50
    decide
  · exact in_n (k := 20) (by omega) (by omega)
  · unfold hp s00
    rw [if_neg (by omega), if_neg (by omega)]
  · exact in_n (k := 0) (by omega) (by omega)
  · exact in_n (k := 0) (by omega) (by omega)
theorem law_ev (hL : xl ≤ 260) : ∃ Mf, pm_ev tb xl xs mL_law 0 [some (.double 0), none, none, none, none, none, none, none, none, none, none] [] M00 = some (some (.int 1), Mf) ∧ Mf.1 ≤ 600000 ∧ Mf.2.1 ≤ 7302250 := by
  obtain ⟨Y, eY, y1, y2, y3, y4, y5, y6⟩ := desk_ev (xl := xl) (xs := xs) (pm_new M00 10 6) rfl (by rw [nk]; exact if_pos rfl) (fun a j => by rw [ni]; split <;> rfl)
  have hcl : Cl (FF Y) (pm_is Y) s00 0 0 0 0 0 (fun _ => s00) := by
    refine ⟨y3, ⟨⟨?_, ?_, ?_, ?_, ?_, ?_, ?_, ?_, ?_⟩, fun a ha => absurd ha (by omega), fun a ha => absurd ha (by omega), fun a ha => absurd ha (by omega)⟩, PI0.1.mono (by omega), y5, y6, by omega, by omega, fun j hj => absurd hj (by omega)⟩ <;> (rw [y4]; rfl)
  have hG : pm_G (FF Y) (pm_is Y) = Y := rfl
  have e0 := op_undo0 (xl := xl) (xs := xs) hcl
  obtain ⟨I1, e1, hcl1, -⟩ := refused_ev (xl := xl) (xs := xs) hcl PI0.1 (by omega) (best_no (by omega))
  obtain ⟨F2, I2, e2, hcl2, f1, f2⟩ := fits_ev (xl := xl) (xs := xs) hcl1 PI0 (by omega) (by show 583 ≤ Y.1; omega)
  obtain ⟨v, hv⟩ := cell_all (xs := xs) hL (show 90 < 100000 by omega)
  obtain ⟨w, hw⟩ := cell_all (xs := xs) hL (show 89 < 100000 by omega)
  have hv : ∀ M, pm_ev tb xl xs mL_cell 0 [some (.double 0), some (.int 90), none] [] M = some (some (.int v), M) := hv
  have hw : ∀ M, pm_ev tb xl xs mL_cell 0 [some (.double 0), some (.int 89), none] [] M = some (some (.int w), M) := hw
  have b3 := lowV_lt v (n := 3) (by omega)
  have b4 := lowV_lt w (n := 4) (by omega)
  have a1 : (1 : Int32) + nI (lowV v 3) = nI (1 + lowV v 3) := nI_add 1 _
  have a3 : (3 : Int32) + nI (lowV w 4) = nI (3 + lowV w 4) := nI_add 3 _
  obtain ⟨I3, s3, n3, m3, H3, l5, e3, hcl3, hP3⟩ := law1 (xl := xl) (xs := xs) hL (show 1 + lowV v 3 ≤ 3 by omega) (1 + lowV v 3) 0 I2 s00 0 0 _ none (by omega) hcl2 PI0
  obtain ⟨I4, s4, n4, m4, H4, e4, hcl4, hP4⟩ := law2 (xl := xl) (xs := xs) (A := 1 + lowV v 3) (show 3 + lowV w 4 ≤ 6 by omega) (3 + lowV w 4) 0 I3 s3 n3 m3 H3 (by omega) hcl3 (hP3.mono (by omega))
  obtain ⟨F', I', s', nR', n', m', H', l6, l7, l8, l9, l10, e5, hcl5, hP5, g1, g2⟩ := law3 (xl := xl) (xs := xs) hL (show 1 ≤ 1 + lowV v 3 by omega) (show 1 ≤ 3 + lowV w 4 by omega) 60 0 F2 I4 s4 0 n4 m4 H4 none none none none none (by omega) hcl4 (hP4.mono (by omega)) (by rw [f1]; show 583 ≤ Y.1 + 3; omega) (Or.inl (by omega))
  obtain ⟨I6, e6, hcl6, -⟩ := refused_ev (xl := xl) (xs := xs) hcl5 hP5.1 (by omega) (best_no hP5.1.1.1.2.1.2)
  have zy : Y.2.1 = 5982 := by rw [y2]; rfl
  have f1' : F2.1 = Y.1 + 3 := f1
  have f2' : F2.2.1 = Y.2.1 + 22 := f2
  refine ⟨pm_G F' I6, ?_, ?_, ?_⟩
  · have k0 : pm_k (pm_new M00 10 6) 0 = (10, 6) := by rw [nk]; exact if_pos rfl
    have m0 : M00.1 = 0 := rfl
    have kY : pm_k Y 0 = (10, 6) := ld0 y3
    rw [hG] at e0 e1
    simp only [eL_law_0, eL_law_3, eL_law_3_i, eL_law_4, eL_law_7, eL_law_8, eL_law_9, eL_law_12, eL_law_15, eL_law_18, eL_law_19, eL_law_22, eL_law_25, eL_law_26, eL_law_29, eL_law_32, eL_law_33, eL_law_36, eL_law_37, eL_law_38, eL_law_39, eL_law_40, eL_law_42, eL_law_45, eL_law_46, eL_law_49, eL_law_50, eL_law_51, eL_law_52, ret_l, one0, and_false, false_and, gk, gr, gi, gs, rv_some, ret_i, ret_n, Option.bind_some, List.cons_append, List.nil_append, z0, z1, zi, zj, i10, i01, true_or, or_true, eq_self, not_false_eq_true, not_true_eq_false, if_true, if_false, ite_not, Decidable.not_not, and_true, true_and, or_false, false_or, Nat.reduceLeDiff, Nat.reduceMod, Nat.reduceEqDiff, m0, k0, eY, kY, e0, e1, e2, hv, low3, a1]
    refine Eq.trans e3 ?_
    simp only [eL_law_138, eL_law_139, eL_law_140, eL_law_142, eL_law_145, eL_law_146, eL_law_149, eL_law_150, eL_law_152, eL_law_153, ret_l, one0, and_false, false_and, gk, gr, gi, gs, rv_some, ret_i, ret_n, Option.bind_some, List.cons_append, List.nil_append, z0, z1, zi, zj, i10, i01, true_or, or_true, eq_self, not_false_eq_true, not_true_eq_false, if_true, if_false, ite_not, Decidable.not_not, and_true, true_and, or_false, false_or, Nat.reduceLeDiff, Nat.reduceMod, Nat.reduceEqDiff, hw, low4, a3]
    refine Eq.trans e4 ?_
    simp only [eL_law_187, eL_law_188, ret_l, one0, and_false, false_and, gk, gr, gi, gs, rv_some, ret_i, ret_n, Option.bind_some, List.cons_append, List.nil_append, z0, z1, zi, zj, i10, i01, true_or, or_true, eq_self, not_false_eq_true, not_true_eq_false, if_true, if_false, ite_not, Decidable.not_not, and_true, true_and, or_false, false_or, Nat.reduceLeDiff, Nat.reduceMod, Nat.reduceEqDiff]
    refine Eq.trans e5 ?_
    simp only [eL_law_403, eL_law_404, eL_law_407, eL_law_408, eL_law_411, eL_law_414, eL_law_415, eL_law_418, eL_law_419, ret_l, one0, and_false, false_and, gk, gr, gi, gs, rv_some, ret_i, ret_n, Option.bind_some, List.cons_append, List.nil_append, z0, z1, zi, zj, i10, i01, true_or, or_true, eq_self, not_false_eq_true, not_true_eq_false, if_true, if_false, ite_not, Decidable.not_not, and_true, true_and, or_false, false_or, Nat.reduceLeDiff, Nat.reduceMod, Nat.reduceEqDiff, e6]
  · show F'.1 ≤ 600000
    omega
  · show F'.2.1 ≤ 7302250
    omega
end BEGIN2
