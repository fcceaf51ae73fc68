/-! fits, whole -/
section FITS3
variable {xl : Nat} {xs : Nat → Int32} {F : pm_F} {I : Nat → Nat → Int32} {N : Nat} {s s' : St} {nA nH nR nA' nH' nR' n m : Nat} {H : Nat → St} {v : Int32}
theorem fits_ev (hcl : Cl F I s nA nH nR n m H) (h : PI N s nA nH nR) (hN : N < 100) (hb : 583 ≤ F.1) : ∃ F' I', pm_ev tb xl xs mL_fits 0 [some (.ref 0), none, none, none, none, none, none, none, none, none, none, none, none, none, none] [] (pm_G F I) = some (some (.int 1), pm_G F' I') ∧ Cl F' I' s nA nH nR n m H ∧ F'.1 = F.1 + 3 ∧ F'.2.1 = F.2.1 + 22 := by
  have hFI := h.1
  have hD := hcl.1
  have h6 := hFI.1.1.1.2
  have h8 := hFI.1.1.2.1.2
  have h40 := hFI.1.1.2.2.1.2
  obtain ⟨Y, hY⟩ : ∃ Y, Y = pm_new (pm_new (pm_new (pm_G F I) 1 6) 1 8) 1 8 := ⟨_, rfl⟩
  have hG : pm_G (FF Y) (pm_is Y) = Y := rfl
  have hk : ∀ a, pm_k Y a = if a = F.1 + 2 then (1, 8) else if a = F.1 + 1 then (1, 8) else if a = F.1 then (1, 6) else fk F a := fun a => by
    rw [hY, nk, nk, nk]
    rfl
  have hi : ∀ a j, pm_is Y a j = if a = F.1 + 2 then 0 else if a = F.1 + 1 then 0 else if a = F.1 then 0 else I a j := fun a j => by
    rw [hY, ni, ni, ni]
    rfl
  have hS : ∀ a, a < 583 → Sm (pm_G F I) Y a := fun a ha => by
    rw [hY]
    exact ((sm_new (show a < F.1 by omega)).tr (sm_new (show a < F.1 + 1 by omega))).tr (sm_new (show a < F.1 + 2 by omega))
  have hD' : LD (FF Y) := LD.same (X := pm_G F I) hD hS
  have hcl1 : Cl (FF Y) (pm_is Y) s nA nH nR n m H := hcl.grow hD' (fun k hk => by
    funext j
    exact (hS k (by omega)).2.2 j)
  have hK : fk (FF Y) F.1 = (1, 6) ∧ fk (FF Y) (F.1 + 1) = (1, 8) ∧ fk (FF Y) (F.1 + 2) = (1, 8) := by
    refine ⟨?_, ?_, ?_⟩
    · show pm_k Y F.1 = _
      rw [hk, if_neg (by omega), if_neg (by omega), if_pos rfl]
    · show pm_k Y (F.1 + 1) = _
      rw [hk, if_neg (by omega), if_pos rfl]
    · show pm_k Y (F.1 + 2) = _
      rw [hk, if_pos rfl]
  have hJ : FJ s F.1 0 (pm_is Y) := ⟨fun c _ => by rw [hi, if_neg (by omega), if_neg (by omega), if_pos rfl]; rfl, fun c _ => by rw [hi, if_neg (by omega), if_pos rfl]; rfl, fun c _ => by rw [hi, if_pos rfl]; rfl⟩
  obtain ⟨K1, a10, a11, e1, c1, j1⟩ := fits1 (xl := xl) (xs := xs) hK hb h (by omega) nR 0 (pm_is Y) none none (by omega) hcl1 hJ
  have e2 := fun (u o : Int32) => fits2 (xl := xl) (xs := xs) hK h c1 j1 (u := u) (o := o) (l10 := a10) (l11 := a11) 6 0 (by omega)
  obtain ⟨K2, a12, a13, a14, e3, c2, j2⟩ := fits3 (xl := xl) (xs := xs) hK hb h hN (u := sum (fun q => undS s nR q) nR) (o := apS s nR) nH 0 K1 none none none 0 (by omega) c1 j1
  have e4 := fits4 (xl := xl) (xs := xs) h c2 (u := sum (fun q => undS s nR q) nR) (o := apS s nR) (g := lp (fun p (x : Int64) => x + (hp s p 0).toInt64) 0 nH 0) (l3 := some (.ref F.1)) (l4 := some (.ref (F.1 + 1))) (l5 := some (.ref (F.1 + 2))) nA 0 (by omega)
  rw [hG] at e1
  refine ⟨FF Y, K2, ?_, c2, by rw [hY]; rfl, by rw [hY]; rfl⟩
  have q1 : (pm_G F I).1 = F.1 := rfl
  have q2 : (pm_new (pm_G F I) 1 6).1 = F.1 + 1 := rfl
  have q3 : (pm_new (pm_new (pm_G F I) 1 6) 1 8).1 = F.1 + 2 := rfl
  have v6 : ¬ (6 : Int32) < 0 ∧ (6 : Int32).toNatClampNeg ≤ 100000 := by decide
  have v8 : ¬ (8 : Int32) < 0 ∧ (8 : Int32).toNatClampNeg ≤ 100000 := by decide
  have w6 : (6 : Int32).toNatClampNeg = 6 := by decide
  have w8 : (8 : Int32).toNatClampNeg = 8 := by decide
  simp only [eL_fits_0, eL_fits_1, eL_fits_2, eL_fits_5, eL_fits_6, eL_fits_7, eL_fits_8, eL_fits_11, eL_fits_12, eL_fits_14, eL_fits_16, eL_fits_17, eL_fits_19, eL_fits_21, eL_fits_23, eL_fits_25, eL_fits_27, eL_fits_29, eL_fits_30, eL_fits_32, eL_fits_33, eL_fits_35, eL_fits_36, eL_fits_38, eL_fits_39, ret_l, one0, and_false, false_and, gk, gr, gi, gs, rv_some, ret_i, ret_n, Option.bind_some, List.cons_append, List.nil_append, z0, z1, zi, zj, i10, i01, true_or, or_true, eq_self, not_false_eq_true, not_true_eq_false, if_true, if_false, ite_not, Decidable.not_not, and_true, true_and, or_false, false_or, Nat.reduceLeDiff, Nat.reduceMod, Nat.reduceEqDiff, ld0 hD, cn4 hcl hFI, cn5 hcl hFI, q1, q2, q3, v6, v8, w6, w8]
  rw [← hY]
  refine Eq.trans e1 ?_
  simp only [eL_fits_176, eL_fits_177, ret_l, one0, and_false, false_and, gk, gr, gi, gs, rv_some, ret_i, ret_n, Option.bind_some, List.cons_append, List.nil_append, z0, z1, zi, zj, i10, i01, true_or, or_true, eq_self, not_false_eq_true, not_true_eq_false, if_true, if_false, ite_not, Decidable.not_not, and_true, true_and, or_false, false_or, Nat.reduceLeDiff, Nat.reduceMod, Nat.reduceEqDiff]
  refine Eq.trans (e2 _ _) ?_
  simp only [eL_fits_220, eL_fits_221, eL_fits_223, eL_fits_224, ret_l, one0, and_false, false_and, gk, gr, gi, gs, rv_some, ret_i, ret_n, Option.bind_some, List.cons_append, List.nil_append, z0, z1, zi, zj, i10, i01, true_or, or_true, eq_self, not_false_eq_true, not_true_eq_false, if_true, if_false, ite_not, Decidable.not_not, and_true, true_and, or_false, false_or, Nat.reduceLeDiff, Nat.reduceMod, Nat.reduceEqDiff]
  refine Eq.trans e3 ?_
  simp only [eL_fits_458, eL_fits_459, eL_fits_461, eL_fits_462, eL_fits_464, eL_fits_465, eL_fits_467, eL_fits_468, ret_l, one0, and_false, false_and, gk, gr, gi, gs, rv_some, ret_i, ret_n, Option.bind_some, List.cons_append, List.nil_append, z0, z1, zi, zj, i10, i01, true_or, or_true, eq_self, not_false_eq_true, not_true_eq_false, if_true, if_false, ite_not, Decidable.not_not, and_true, true_and, or_false, false_or, Nat.reduceLeDiff, Nat.reduceMod, Nat.reduceEqDiff]
  refine Eq.trans e4 ?_
  -- its end
  have hgot := got_all h hN
  have hund := under_all h
  have hfor := for_all hFI.1
  have hdue := due_all hFI.1 hFI.2
  have i5 : vp_in 5 6 := ix6 (i := 5) (by omega)
  have w5 : (5 : Int32).toNatClampNeg = 5 := by decide
  have s5 : K2 F.1 5 = cntS s nR 5 := j2.1 5 (by omega)
  obtain ⟨g, hg, eg⟩ := vp_in_of hFI.2.1.2.1 (by have := hFI.rb; omega)
  have hrb := hFI.rb
  have hll := lacks_le hFI.1 hFI.2 (Nat.le_refl nR)
  have hl : lackS s nA nR = if nI g < nI (lacks s nA nR) then nI (lacks s nA nR) - nI g else 0 := by
    rw [dmax2 (by omega) (by omega)]
    unfold lackS
    rw [eg, tn_n (by omega)]
  have epool : sum (fun a => ap s a 2) nA = poolS s nA := rfl
  have eund : sum (fun q => undS s nR q) nR = cntS s nR 5 := hund
  have efor : sum (forS s nR) nA = nI nR := hfor
  by_cases hc : nI g < nI (lacks s nA nR)
  · rw [if_pos hc] at hl
    have hc := eq_true hc
    simp only [eL_fits_592, eL_fits_594, eL_fits_597, eL_fits_599, eL_fits_600, eL_fits_602, eL_fits_605, eL_fits_606, eL_fits_607, eL_fits_609, eL_fits_612, eL_fits_613, eL_fits_614, eL_fits_615, eL_fits_618, eL_fits_620, eL_fits_621, eL_fits_622, eL_fits_623, eL_fits_626, eL_fits_628, eL_fits_629, eL_fits_631, eL_fits_634, eL_fits_637, eL_fits_639, eL_fits_640, eL_fits_642, eL_fits_645, eL_fits_648, eL_fits_650, eL_fits_651, eL_fits_654, eL_fits_655, eL_fits_658, eL_fits_660, eL_fits_661, eL_fits_662, eL_fits_665, eL_fits_668, eL_fits_670, eL_fits_671, eL_fits_672, eL_fits_675, eL_fits_676, eL_fits_679, eL_fits_680, eL_fits_683, eL_fits_684, eL_fits_685, eL_fits_688, eL_fits_689, eL_fits_690, eL_fits_693, eL_fits_695, eL_fits_696, eL_fits_699, eL_fits_700, eL_fits_703, eL_fits_704, ret_l, one0, and_false, false_and, gk, gr, gi, gs, rv_some, ret_i, ret_n, Option.bind_some, List.cons_append, List.nil_append, z0, z1, zi, zj, i10, i01, true_or, or_true, eq_self, not_false_eq_true, not_true_eq_false, if_true, if_false, ite_not, Decidable.not_not, and_true, true_and, or_false, false_or, Nat.reduceLeDiff, Nat.reduceMod, Nat.reduceEqDiff, ld0 (show LD (FF Y) from hD'), cn13 c2 hFI, cn14 c2 hFI, cn15 c2 hFI, cn12 c2 hFI, cn2 c2 hFI, cn1 c2 hFI, cn0 c2 hFI, la_ev c2 hFI (show N < 400 by omega), hgot, lgc, eund, efor, epool, hdue, hK, i5, w5, s5, eg, hc, hl, d90]
  · rw [if_neg hc] at hl
    have hc := eq_false hc
    simp only [eL_fits_592, eL_fits_594, eL_fits_597, eL_fits_599, eL_fits_600, eL_fits_602, eL_fits_605, eL_fits_606, eL_fits_607, eL_fits_609, eL_fits_612, eL_fits_613, eL_fits_614, eL_fits_615, eL_fits_618, eL_fits_620, eL_fits_621, eL_fits_622, eL_fits_623, eL_fits_626, eL_fits_628, eL_fits_629, eL_fits_631, eL_fits_634, eL_fits_637, eL_fits_639, eL_fits_640, eL_fits_642, eL_fits_645, eL_fits_648, eL_fits_650, eL_fits_651, eL_fits_654, eL_fits_655, eL_fits_658, eL_fits_660, eL_fits_661, eL_fits_662, eL_fits_665, eL_fits_668, eL_fits_670, eL_fits_671, eL_fits_672, eL_fits_675, eL_fits_676, eL_fits_679, eL_fits_680, eL_fits_683, eL_fits_684, eL_fits_685, eL_fits_688, eL_fits_689, eL_fits_690, eL_fits_693, eL_fits_695, eL_fits_696, eL_fits_699, eL_fits_700, eL_fits_703, eL_fits_704, ret_l, one0, and_false, false_and, gk, gr, gi, gs, rv_some, ret_i, ret_n, Option.bind_some, List.cons_append, List.nil_append, z0, z1, zi, zj, i10, i01, true_or, or_true, eq_self, not_false_eq_true, not_true_eq_false, if_true, if_false, ite_not, Decidable.not_not, and_true, true_and, or_false, false_or, Nat.reduceLeDiff, Nat.reduceMod, Nat.reduceEqDiff, ld0 (show LD (FF Y) from hD'), cn13 c2 hFI, cn14 c2 hFI, cn15 c2 hFI, cn12 c2 hFI, cn2 c2 hFI, cn1 c2 hFI, cn0 c2 hFI, la_ev c2 hFI (show N < 400 by omega), hgot, lgc, eund, efor, epool, hdue, hK, i5, w5, s5, eg, hc, hl, d90]
end FITS3
