/-! undone; a reserve filled by what it lacks -/
section FILLED
variable {xl : Nat} {xs : Nat → Int32} {F : pm_F} {I : Nat → Nat → Int32} {N : Nat} {s s' : St} {nA nH nR nA' nH' nR' n m : Nat} {H : Nat → St} {v : Int32}
variable {I1 I2 : Nat → Nat → Int32} {m1 m2 a b c : Nat} {s1 s2 : St} {a' b' c' : Nat}
theorem FI.un {N' : Nat} (h : FI N s nA nH nR) (k : FI N' s a b c) : a = nA ∧ b = nH ∧ c = nR := by
  obtain ⟨⟨⟨⟨h1, h2⟩, ⟨h3, h4⟩, ⟨h5, h6⟩, -⟩, -⟩, -⟩ := h
  obtain ⟨⟨⟨⟨k1, k2⟩, ⟨k3, k4⟩, ⟨k5, k6⟩, -⟩, -⟩, -⟩ := k
  exact ⟨(nI_eq (by omega) (by omega)).mp (k1.symm.trans h1), (nI_eq (by omega) (by omega)).mp (k3.symm.trans h3), (nI_eq (by omega) (by omega)).mp (k5.symm.trans h5)⟩
/-- the latest deed is undone -/
theorem undone (hcl : Cl F I1 s1 a b c (nx8 n) m1 (push H n s)) (hn : n ≤ 8) (hFI : FI N s nA nH nR) : ∃ I2 m2 j, pm_ev tb xl xs mX4_undo 0 [some (.ref 0)] [] (pm_G F I1) = some (some (.int (nI j)), pm_G F I2) ∧ Cl F I2 s nA nH nR j m2 (push H n s) ∧ (j ≤ 8 ∧ j = if n = 8 then 7 else n) ∧ ∀ k, 582 ≤ k → I2 k = I1 k := by
  have key : ∀ j, nx8 n = j + 1 → push H n s j = s → ∃ I2 m2 j, pm_ev tb xl xs mX4_undo 0 [some (.ref 0)] [] (pm_G F I1) = some (some (.int (nI j)), pm_G F I2) ∧ Cl F I2 s nA nH nR j m2 (push H n s) ∧ (j ≤ 8 ∧ j + 1 = nx8 n) ∧ ∀ k, 582 ≤ k → I2 k = I1 k := by
    intro j hj hs
    rw [hj] at hcl
    obtain ⟨I2, m2, x, y, z, e, hcl2, hk⟩ := op_undo (xl := xl) (xs := xs) hcl
    rw [hs] at hcl2
    obtain ⟨rfl, rfl, rfl⟩ := hFI.un hcl2.2.2.1
    refine ⟨I2, m2, j, e, hcl2, ⟨?_, hj.symm⟩, hk⟩
    unfold nx8 at hj
    split at hj <;> omega
  by_cases h8 : n = 8
  · obtain ⟨I2, m2, j, e1, e2, ⟨e3, e4⟩, e5⟩ := key 7 (by rw [h8]; rfl) (by rw [h8]; rfl)
    refine ⟨I2, m2, j, e1, e2, ⟨e3, ?_⟩, e5⟩
    rw [if_pos h8]
    unfold nx8 at e4
    rw [if_pos h8] at e4
    omega
  · obtain ⟨I2, m2, j, e1, e2, ⟨e3, e4⟩, e5⟩ := key n (by unfold nx8; rw [if_neg h8]) (by unfold push; rw [if_neg h8, if_pos rfl])
    refine ⟨I2, m2, j, e1, e2, ⟨e3, ?_⟩, e5⟩
    rw [if_neg h8]
    unfold nx8 at e4
    rw [if_neg h8] at e4
    omega
theorem Cl.n8 (h : Cl F I s nA nH nR n m H) : n ≤ 8 := h.2.2.2.2.2.2.1
theorem nx8_8 (h : n ≤ 8) : nx8 n ≤ 8 := by
  unfold nx8
  split <;> omega
theorem pre_g (s : St) (v : Int32) (a : Nat) : ∀ i, pre (sG s 1 v) a i = pre s a i
  | 0 => rfl
  | i + 1 => by
    have e : price (sG s 1 v) i = price s i := by
      unfold price prS
      rw [rp_sG (by decide), rp_sG (by decide), ap_sG (by decide), gp_sG, if_neg (by decide)]
    rw [pre_s, pre_s, pre_g s v a i, e]
    unfold isDue
    rw [rp_sG (by decide), rp_sG (by decide)]
theorem lacks_g (s : St) (v : Int32) (nA i : Nat) : lacks (sG s 1 v) nA i = lacks s nA i := nsum_c nA (fun a _ => by rw [pre_g, ap_sG (by decide)])
theorem fill_ok (hcl : Cl F I s nA nH nR n m H) (hFI : FI N s nA nH nR) (hN : N < 400) {g v : Nat} (hg : gp s 1 = nI g) (h1 : 1 ≤ v) (h2 : v ≤ 100000) (h3 : g + v ≤ 1000000) : Dd F N I s n H (fun M => pm_ev tb xl xs mX4_fill 0 [some (.ref 0), some (.int (nI v))] [] M) (nI (g + v)) (sG s 1 (nI (g + v))) nA nH nR := by
  have := op_fill (xl := xl) (xs := xs) hcl hFI hN (nI v)
  unfold o_fill at this
  rw [hg, nI_add, if_neg, if_neg] at this
  · exact this
  · exact nI_nlt (a := 1000000) h3 (by omega)
  · rintro (q | q)
    · exact nI_nlt (b := 1) h1 (by omega) q
    · exact nI_nlt (a := 100000) h2 (by omega) q
theorem isFilled_ev (hcl : Cl F I s nA nH nR n m H) (hFI : FI N s nA nH nR) (hN : N < 300) : ∃ I' n' m' H', pm_ev tb xl xs mL_isFilled 0 [some (.ref 0), none, none, none, none] [] (pm_G F I) = some (some (.int 1), pm_G F I') ∧ Cl F I' s nA nH nR n' m' H' := by
  have hD := hcl.1
  have hrb := hFI.rb
  obtain ⟨g, hg, eg⟩ := vp_in_of hFI.2.1.2.1 (by omega)
  have hll := lacks_le hFI.1 hFI.2 (Nat.le_refl nR)
  have el : lackS s nA nR = nI (lacks s nA nR - g) := by
    unfold lackS
    rw [eg, tn_n (by omega)]
  generalize hL : lacks s nA nR - g = L at el
  have c1 : (nI L = 0) = (L = 0) := eq_iff (n := 0) (by omega) (by omega)
  have c2 : ((100000 : Int32) < nI L) = (100000 < L) := lt_iff (i := 100000) (by omega) (by omega)
  have c3 : ((1000000 : Int32) < nI (g + L)) = (1000000 < g + L) := lt_iff (i := 1000000) (by omega) (by omega)
  have c4 : (nI L = 1) = (L = 1) := eq_iff (n := 1) (by omega) (by omega)
  by_cases h1 : L = 0
  · refine ⟨I, n, m, H, ?_, hcl⟩
    have h1 := eq_true h1
    simp only [eL_isFilled_0, eL_isFilled_1, eL_isFilled_4, eL_isFilled_5, eL_isFilled_6, eL_isFilled_9, eL_isFilled_10, eL_isFilled_12, eL_isFilled_15, eL_isFilled_16, eL_isFilled_17, eL_isFilled_20, eL_isFilled_21, eL_isFilled_22, eL_isFilled_24, eL_isFilled_27, eL_isFilled_28, eL_isFilled_29, eL_isFilled_30, eL_isFilled_33, eL_isFilled_34, eL_isFilled_35, eL_isFilled_36, eL_isFilled_39, eL_isFilled_40, eL_isFilled_41, eL_isFilled_42, eL_isFilled_43, eL_isFilled_46, eL_isFilled_49, eL_isFilled_50, eL_isFilled_53, eL_isFilled_54, eL_isFilled_57, eL_isFilled_58, eL_isFilled_61, eL_isFilled_64, eL_isFilled_65, eL_isFilled_68, eL_isFilled_69, eL_isFilled_71, eL_isFilled_73, eL_isFilled_76, eL_isFilled_77, eL_isFilled_78, eL_isFilled_81, eL_isFilled_82, eL_isFilled_83, eL_isFilled_86, eL_isFilled_89, eL_isFilled_90, eL_isFilled_93, eL_isFilled_96, eL_isFilled_97, eL_isFilled_100, eL_isFilled_103, eL_isFilled_104, eL_isFilled_107, eL_isFilled_108, eL_isFilled_109, eL_isFilled_112, eL_isFilled_113, eL_isFilled_116, eL_isFilled_117, ret_l, one0, and_false, false_and, gk, gr, gi, gs, rv_some, ret_i, ret_n, Option.bind_some, List.cons_append, List.nil_append, z0, z1, zi, zj, i10, i01, true_or, or_true, eq_self, not_false_eq_true, not_true_eq_false, if_true, if_false, ite_not, Decidable.not_not, and_true, true_and, or_false, false_or, Nat.reduceLeDiff, Nat.reduceMod, Nat.reduceEqDiff, ld0 hD, la_ev hcl hFI (show N < 400 by omega), el, c1, h1, z1]
  · by_cases h2 : 100000 < L
    · refine ⟨I, n, m, H, ?_, hcl⟩
      simp only [eL_isFilled_0, eL_isFilled_1, eL_isFilled_4, eL_isFilled_5, eL_isFilled_6, eL_isFilled_9, eL_isFilled_10, eL_isFilled_12, eL_isFilled_15, eL_isFilled_16, eL_isFilled_17, eL_isFilled_20, eL_isFilled_21, eL_isFilled_22, eL_isFilled_24, eL_isFilled_27, eL_isFilled_28, eL_isFilled_29, eL_isFilled_30, eL_isFilled_33, eL_isFilled_34, eL_isFilled_35, eL_isFilled_36, eL_isFilled_39, eL_isFilled_40, eL_isFilled_41, eL_isFilled_42, eL_isFilled_43, eL_isFilled_46, eL_isFilled_49, eL_isFilled_50, eL_isFilled_53, eL_isFilled_54, eL_isFilled_57, eL_isFilled_58, eL_isFilled_61, eL_isFilled_64, eL_isFilled_65, eL_isFilled_68, eL_isFilled_69, eL_isFilled_71, eL_isFilled_73, eL_isFilled_76, eL_isFilled_77, eL_isFilled_78, eL_isFilled_81, eL_isFilled_82, eL_isFilled_83, eL_isFilled_86, eL_isFilled_89, eL_isFilled_90, eL_isFilled_93, eL_isFilled_96, eL_isFilled_97, eL_isFilled_100, eL_isFilled_103, eL_isFilled_104, eL_isFilled_107, eL_isFilled_108, eL_isFilled_109, eL_isFilled_112, eL_isFilled_113, eL_isFilled_116, eL_isFilled_117, ret_l, one0, and_false, false_and, gk, gr, gi, gs, rv_some, ret_i, ret_n, Option.bind_some, List.cons_append, List.nil_append, z0, z1, zi, zj, i10, i01, true_or, or_true, eq_self, not_false_eq_true, not_true_eq_false, if_true, if_false, ite_not, Decidable.not_not, and_true, true_and, or_false, false_or, Nat.reduceLeDiff, Nat.reduceMod, Nat.reduceEqDiff, ld0 hD, la_ev hcl hFI (show N < 400 by omega), el, c1, h1, c2, h2, z1]
    · by_cases h3 : 1000000 < g + L
      · refine ⟨I, n, m, H, ?_, hcl⟩
        simp only [eL_isFilled_0, eL_isFilled_1, eL_isFilled_4, eL_isFilled_5, eL_isFilled_6, eL_isFilled_9, eL_isFilled_10, eL_isFilled_12, eL_isFilled_15, eL_isFilled_16, eL_isFilled_17, eL_isFilled_20, eL_isFilled_21, eL_isFilled_22, eL_isFilled_24, eL_isFilled_27, eL_isFilled_28, eL_isFilled_29, eL_isFilled_30, eL_isFilled_33, eL_isFilled_34, eL_isFilled_35, eL_isFilled_36, eL_isFilled_39, eL_isFilled_40, eL_isFilled_41, eL_isFilled_42, eL_isFilled_43, eL_isFilled_46, eL_isFilled_49, eL_isFilled_50, eL_isFilled_53, eL_isFilled_54, eL_isFilled_57, eL_isFilled_58, eL_isFilled_61, eL_isFilled_64, eL_isFilled_65, eL_isFilled_68, eL_isFilled_69, eL_isFilled_71, eL_isFilled_73, eL_isFilled_76, eL_isFilled_77, eL_isFilled_78, eL_isFilled_81, eL_isFilled_82, eL_isFilled_83, eL_isFilled_86, eL_isFilled_89, eL_isFilled_90, eL_isFilled_93, eL_isFilled_96, eL_isFilled_97, eL_isFilled_100, eL_isFilled_103, eL_isFilled_104, eL_isFilled_107, eL_isFilled_108, eL_isFilled_109, eL_isFilled_112, eL_isFilled_113, eL_isFilled_116, eL_isFilled_117, ret_l, one0, and_false, false_and, gk, gr, gi, gs, rv_some, ret_i, ret_n, Option.bind_some, List.cons_append, List.nil_append, z0, z1, zi, zj, i10, i01, true_or, or_true, eq_self, not_false_eq_true, not_true_eq_false, if_true, if_false, ite_not, Decidable.not_not, and_true, true_and, or_false, false_or, Nat.reduceLeDiff, Nat.reduceMod, Nat.reduceEqDiff, ld0 hD, la_ev hcl hFI (show N < 400 by omega), cn2 hcl hFI, eg, nI_add, el, c1, h1, c2, h2, c3, h3, z1]
      · have lk : ∀ w, lackS (sG s 1 (nI w)) nA nR = nI (lacks s nA nR - tn (nI w)) := fun w => by
          unfold lackS
          rw [lacks_g, gp_sG, if_pos rfl]
        -- the second filling, from any memory
        have second : ∀ (J : Nat → Nat → Int32) (n0 m0 : Nat) (H0 : Nat → St), Cl F J s nA nH nR n0 m0 H0 → ∃ I' n' m' H', pm_ev tb xl xs mL_isFilled 64 [some (.ref 0), some (.int (nI L)), some (.long (sumS s nA nH nR)), none, none] [] (pm_G F J) = some (some (.int 1), pm_G F I') ∧ Cl F I' s nA nH nR n' m' H' := by
          intro J n0 m0 H0 hc0
          obtain ⟨J1, m1, e1, hc1, hF1, -⟩ := fill_ok (xl := xl) (xs := xs) hc0 hFI (by omega) eg (show 1 ≤ L by omega) (show L ≤ 100000 by omega) (show g + L ≤ 1000000 by omega)
          obtain ⟨J2, m2, j, e2, hc2, -, -⟩ := undone (xl := xl) (xs := xs) hc1 hc0.n8 hFI
          refine ⟨J2, j, m2, _, ?_, hc2⟩
          have g1 : gp (sG s 1 (nI (g + L))) 1 = nI (g + L) := by rw [gp_sG, if_pos rfl]
          have g2 : lackS (sG s 1 (nI (g + L))) nA nR = 0 := by
            rw [lk, tn_n (by omega), show lacks s nA nR - (g + L) = 0 by omega]; rfl
          have f1 : (nI j < 0) = False := n_neg (by have := hc2.n8; omega)
          have s2 := sum_ev (xl := xl) (xs := xs) hc2 hFI (by omega)
          simp only [eL_isFilled_0, eL_isFilled_1, eL_isFilled_4, eL_isFilled_5, eL_isFilled_6, eL_isFilled_9, eL_isFilled_10, eL_isFilled_12, eL_isFilled_15, eL_isFilled_16, eL_isFilled_17, eL_isFilled_20, eL_isFilled_21, eL_isFilled_22, eL_isFilled_24, eL_isFilled_27, eL_isFilled_28, eL_isFilled_29, eL_isFilled_30, eL_isFilled_33, eL_isFilled_34, eL_isFilled_35, eL_isFilled_36, eL_isFilled_39, eL_isFilled_40, eL_isFilled_41, eL_isFilled_42, eL_isFilled_43, eL_isFilled_46, eL_isFilled_49, eL_isFilled_50, eL_isFilled_53, eL_isFilled_54, eL_isFilled_57, eL_isFilled_58, eL_isFilled_61, eL_isFilled_64, eL_isFilled_65, eL_isFilled_68, eL_isFilled_69, eL_isFilled_71, eL_isFilled_73, eL_isFilled_76, eL_isFilled_77, eL_isFilled_78, eL_isFilled_81, eL_isFilled_82, eL_isFilled_83, eL_isFilled_86, eL_isFilled_89, eL_isFilled_90, eL_isFilled_93, eL_isFilled_96, eL_isFilled_97, eL_isFilled_100, eL_isFilled_103, eL_isFilled_104, eL_isFilled_107, eL_isFilled_108, eL_isFilled_109, eL_isFilled_112, eL_isFilled_113, eL_isFilled_116, eL_isFilled_117, ret_l, one0, and_false, false_and, gk, gr, gi, gs, rv_some, ret_i, ret_n, Option.bind_some, List.cons_append, List.nil_append, z0, z1, zi, zj, i10, i01, true_or, or_true, eq_self, not_false_eq_true, not_true_eq_false, if_true, if_false, ite_not, Decidable.not_not, and_true, true_and, or_false, false_or, Nat.reduceLeDiff, Nat.reduceMod, Nat.reduceEqDiff, ld0 hD, e1, e2, cn2 hc1 hF1, g1, la_ev hc1 hF1 (show N + 1 < 400 by omega), g2, f1, s2, lgc, z1]
        have s0 := sum_ev (xl := xl) (xs := xs) hcl hFI (by omega)
        by_cases h4 : L = 1
        · obtain ⟨I', n', m', H', e, hc'⟩ := second I n m H hcl
          refine ⟨I', n', m', H', ?_, hc'⟩
          have h4 := eq_true h4
          simp only [eL_isFilled_0, eL_isFilled_1, eL_isFilled_4, eL_isFilled_5, eL_isFilled_6, eL_isFilled_9, eL_isFilled_10, eL_isFilled_12, eL_isFilled_15, eL_isFilled_16, eL_isFilled_17, eL_isFilled_20, eL_isFilled_21, eL_isFilled_22, eL_isFilled_24, eL_isFilled_27, eL_isFilled_28, eL_isFilled_29, eL_isFilled_30, eL_isFilled_33, eL_isFilled_34, eL_isFilled_35, eL_isFilled_36, eL_isFilled_39, eL_isFilled_40, eL_isFilled_41, eL_isFilled_42, eL_isFilled_43, eL_isFilled_46, eL_isFilled_49, eL_isFilled_50, eL_isFilled_53, eL_isFilled_54, eL_isFilled_57, eL_isFilled_58, eL_isFilled_61, ret_l, one0, and_false, false_and, gk, gr, gi, gs, rv_some, ret_i, ret_n, Option.bind_some, List.cons_append, List.nil_append, z0, z1, zi, zj, i10, i01, true_or, or_true, eq_self, not_false_eq_true, not_true_eq_false, if_true, if_false, ite_not, Decidable.not_not, and_true, true_and, or_false, false_or, Nat.reduceLeDiff, Nat.reduceMod, Nat.reduceEqDiff, ld0 hD, la_ev hcl hFI (show N < 400 by omega), cn2 hcl hFI, eg, nI_add, el, c1, h1, c2, h2, c3, h3, c4, h4, s0]
          exact e
        · obtain ⟨J1, m1, e1, hc1, hF1, -⟩ := fill_ok (xl := xl) (xs := xs) hcl hFI (by omega) eg (show 1 ≤ L - 1 by omega) (show L - 1 ≤ 100000 by omega) (show g + (L - 1) ≤ 1000000 by omega)
          obtain ⟨J2, m2, j, e2, hc2, -, -⟩ := undone (xl := xl) (xs := xs) hc1 hcl.n8 hFI
          obtain ⟨I', n', m', H', e, hc'⟩ := second J2 j m2 _ hc2
          refine ⟨I', n', m', H', ?_, hc'⟩
          have g0 : nI L - 1 = nI (L - 1) := pk_sub (b := 1) (by omega)
          have g2 : lackS (sG s 1 (nI (g + (L - 1)))) nA nR = 1 := by
            rw [lk, tn_n (by omega), show lacks s nA nR - (g + (L - 1)) = 1 by omega]; rfl
          have f1 : (nI j < 0) = False := n_neg (by have := hc2.n8; omega)
          have f2 : (0 < nI (g + (L - 1))) = True := n_pos (by omega) (by omega)
          simp only [eL_isFilled_0, eL_isFilled_1, eL_isFilled_4, eL_isFilled_5, eL_isFilled_6, eL_isFilled_9, eL_isFilled_10, eL_isFilled_12, eL_isFilled_15, eL_isFilled_16, eL_isFilled_17, eL_isFilled_20, eL_isFilled_21, eL_isFilled_22, eL_isFilled_24, eL_isFilled_27, eL_isFilled_28, eL_isFilled_29, eL_isFilled_30, eL_isFilled_33, eL_isFilled_34, eL_isFilled_35, eL_isFilled_36, eL_isFilled_39, eL_isFilled_40, eL_isFilled_41, eL_isFilled_42, eL_isFilled_43, eL_isFilled_46, eL_isFilled_49, eL_isFilled_50, eL_isFilled_53, eL_isFilled_54, eL_isFilled_57, eL_isFilled_58, eL_isFilled_61, ret_l, one0, and_false, false_and, gk, gr, gi, gs, rv_some, ret_i, ret_n, Option.bind_some, List.cons_append, List.nil_append, z0, z1, zi, zj, i10, i01, true_or, or_true, eq_self, not_false_eq_true, not_true_eq_false, if_true, if_false, ite_not, Decidable.not_not, and_true, true_and, or_false, false_or, Nat.reduceLeDiff, Nat.reduceMod, Nat.reduceEqDiff, ld0 hD, la_ev hcl hFI (show N < 400 by omega), cn2 hcl hFI, eg, nI_add, el, c1, h1, c2, h2, c3, h3, c4, h4, s0, g0, e1, e2, la_ev hc1 hF1 (show N + 1 < 400 by omega), g2, f1, f2]
          exact e
end FILLED
