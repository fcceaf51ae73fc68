/-! the law's sixty steps -/
section LAW3
variable {xl : Nat} {xs : Nat → Int32} {F : pm_F} {I : Nat → Nat → Int32} {N : Nat} {s s' : St} {nA nH nR nA' nH' nR' n m : Nat} {H : Nat → St} {v : Int32}
variable {I1 : Nat → Nat → Int32} {m1 : Nat} {s1 s2 : St}
/-- two deeds are undone -/
theorem undone2 (hcl : Cl F I1 s2 nA nH nR (nx8 (nx8 n)) m1 (push (push H n s) (nx8 n) s1)) (hn : n ≤ 8) {N1 : Nat} (hF1 : FI N1 s1 nA nH nR) (hFI : FI N s nA nH nR) : ∃ I2 I3 m3 j j2 H3, pm_ev tb xl xs mX4_undo 0 [some (.ref 0)] [] (pm_G F I1) = some (some (.int (nI j)), pm_G F I2) ∧ fk F 0 = (10, 6) ∧ pm_ev tb xl xs mX4_undo 0 [some (.ref 0)] [] (pm_G F I2) = some (some (.int (nI j2)), pm_G F I3) ∧ Cl F I3 s nA nH nR j2 m3 H3 ∧ j ≤ 8 ∧ j2 ≤ 8 := by
  obtain ⟨I2, m2, j, e1, hc2, ⟨hj, ej⟩, -⟩ := undone (xl := xl) (xs := xs) hcl (nx8_8 hn) hF1
  have key : ∃ j2, j = j2 + 1 ∧ push (push H n s) (nx8 n) s1 j2 = s := by
    unfold nx8 at ej ⊢
    unfold push
    by_cases h8 : n = 8
    · rw [if_pos h8] at ej ⊢
      exact ⟨6, by rw [ej]; rfl, by rw [if_pos rfl, if_pos (by omega), if_pos h8, if_neg (by omega)]⟩
    · rw [if_neg h8] at ej ⊢
      by_cases h7 : n = 7
      · refine ⟨6, by rw [ej, if_pos (by omega)], ?_⟩
        rw [if_pos (by omega), if_pos (by omega), if_neg h8, if_pos (by omega)]
      · refine ⟨n, by rw [ej, if_neg (by omega)], ?_⟩
        rw [if_neg (by omega), if_neg (by omega), if_neg h8, if_pos rfl]
  obtain ⟨j2, rfl, hs⟩ := key
  obtain ⟨I3, m3, a, b, c, e2, hc3, -⟩ := op_undo (xl := xl) (xs := xs) hc2
  rw [hs] at hc3
  obtain ⟨rfl, rfl, rfl⟩ := hFI.un hc3.2.2.1
  exact ⟨I2, I3, m3, j2 + 1, j2, _, e1, ld0 hcl.1, e2, hc3, hj, by omega⟩
/-- bonus and rate are set, and both are undone -/
theorem both_back (hcl : Cl F I s nA nH nR n m H) (h : PI N s nA nH nR) (hN : N < 99) {v : Int32} {l7 l8 l9 l10 : Option Value} {t A B : Int32} : ∃ I' n' m' H', pm_ev tb xl xs mL_law 337 [some (.double 0), some (.ref 0), some (.int 1), some (.int A), some (.int B), some (.int t), some (.int v), l7, l8, l9, l10] [] (pm_G F I) = pm_ev tb xl xs mL_law 397 [some (.double 0), some (.ref 0), some (.int 1), some (.int A), some (.int B), some (.int t), some (.int v), l7, l8, some (.long (sumS s nA nH nR)), none] [] (pm_G F I') ∧ Cl F I' s nA nH nR n' m' H' := by
  have hFI := h.1
  have hD := hcl.1
  have b1 := lowV_lt v (n := 501) (by omega)
  have hop := op_setBonus (xl := xl) (xs := xs) hcl hFI (by omega) (nI (lowV v 501))
  unfold o_bonus at hop
  rw [if_neg (by
    rintro (q | q)
    · exact nI_pos (by omega) q
    · exact nI_nlt (a := 500) (by omega) (by omega) q)] at hop
  obtain ⟨I1, m1, e1, hcl1, hF1, -⟩ := hop
  have hop2 := op_setRate (xl := xl) (xs := xs) hcl1 hF1 (by omega) 77
  unfold o_rate at hop2
  rw [if_neg (by decide)] at hop2
  obtain ⟨I2, m2, e2, hcl2, hF2, -⟩ := hop2
  obtain ⟨I3, I4, m4, j, j2, H4, e3, -, e4, hcl4, hj, hj2⟩ := undone2 (xl := xl) (xs := xs) hcl2 hcl.n8 hF1 hFI
  obtain ⟨g, hg, eg, -⟩ := vin hFI.2.1.2.2.2 (by omega)
  obtain ⟨r, hr, er, -⟩ := vin hF1.2.1.2.2.1.1 (by omega)
  rw [eg] at e1
  rw [er] at e2
  have f1 : (nI g < 0) = False := n_neg (by omega)
  have f2 : (nI r < 0) = False := n_neg (by omega)
  have f3 : (nI j < 0) = False := n_neg (by omega)
  have f4 : (nI j2 < 0) = False := n_neg (by omega)
  have s0 := sum_ev (xl := xl) (xs := xs) hcl hFI (by omega)
  have s4 := sum_ev (xl := xl) (xs := xs) hcl4 hFI (by omega)
  refine ⟨I4, j2, m4, H4, ?_, hcl4⟩
  simp only [eL_law_337, eL_law_338, eL_law_341, eL_law_343, eL_law_344, eL_law_346, eL_law_349, eL_law_352, eL_law_355, eL_law_358, eL_law_359, eL_law_361, eL_law_364, eL_law_367, eL_law_368, eL_law_371, eL_law_374, eL_law_375, eL_law_378, eL_law_381, eL_law_382, eL_law_385, eL_law_387, eL_law_388, eL_law_391, eL_law_392, eL_law_395, eL_law_396, ret_l, one0, and_false, false_and, gk, gr, gi, gs, rv_some, ret_i, ret_n, Option.bind_some, List.cons_append, List.nil_append, z0, z1, zi, zj, i10, i01, true_or, or_true, eq_self, not_false_eq_true, not_true_eq_false, if_true, if_false, ite_not, Decidable.not_not, and_true, true_and, or_false, false_or, Nat.reduceLeDiff, Nat.reduceMod, Nat.reduceEqDiff, ld0 hD, low501, s0, s4, e1, e2, e3, e4, f1, f2, f3, f4, lgc]
theorem law3 (hxl : xl ≤ 260) {A B : Nat} (hA : 1 ≤ A) (hB : 1 ≤ B) : ∀ k t (F : pm_F) (I : Nat → Nat → Int32) (s : St) (nR n m : Nat) (H : Nat → St) (l6 l7 l8 l9 l10 : Option Value), t + k = 60 → Cl F I s A B nR n m H → PI (10 + t) s A B nR → 583 ≤ F.1 → (t < 6 ∨ 1 ≤ nR) →
    ∃ F' I' s' nR' n' m' H' l6' l7' l8' l9' l10', pm_ev tb xl xs mL_law 190 [some (.double 0), some (.ref 0), some (.int 1), some (.int (nI A)), some (.int (nI B)), some (.int (nI t)), l6, l7, l8, l9, l10] [] (pm_G F I) = pm_ev tb xl xs mL_law 403 [some (.double 0), some (.ref 0), some (.int 1), some (.int (nI A)), some (.int (nI B)), some (.int (nI 60)), l6', l7', l8', l9', l10'] [] (pm_G F' I') ∧ Cl F' I' s' A B nR' n' m' H' ∧ PI 70 s' A B nR' ∧ F'.1 = F.1 + 3 * k ∧ F'.2.1 = F.2.1 + 22 * k := by
  intro k
  induction k with
  | zero =>
    intro t F I s nR n m H l6 l7 l8 l9 l10 ht hcl h hF hR
    obtain rfl : t = 60 := by omega
    have e : (nI 60 < 60) = False := lt_f (i := 60) (n := 60) (by omega) (by omega)
    refine ⟨F, I, s, nR, n, m, H, l6, l7, l8, l9, l10, ?_, hcl, h, by omega, by omega⟩
    rw [eL_law_190]
    simp only [eL_law_0, eL_law_3, eL_law_3_i, eL_law_4, eL_law_7, eL_law_8, eL_law_9, eL_law_12, eL_law_15, eL_law_18, eL_law_19, eL_law_22, eL_law_25, eL_law_26, eL_law_29, eL_law_32, eL_law_33, eL_law_36, eL_law_37, eL_law_38, eL_law_39, eL_law_40, eL_law_42, eL_law_45, eL_law_46, eL_law_49, eL_law_50, eL_law_51, eL_law_52, eL_law_56, eL_law_57, eL_law_60, eL_law_61, eL_law_64, eL_law_65, eL_law_67, eL_law_69, eL_law_70, eL_law_73, eL_law_75, eL_law_76, eL_law_77, eL_law_79, eL_law_81, eL_law_84, eL_law_85, eL_law_87, eL_law_88, eL_law_89, eL_law_90, eL_law_93, eL_law_96, eL_law_98, eL_law_99, eL_law_100, eL_law_102, eL_law_105, eL_law_108, eL_law_110, eL_law_111, eL_law_112, eL_law_115, eL_law_118, eL_law_121, eL_law_123, eL_law_126, eL_law_127, eL_law_130, eL_law_131, eL_law_132, eL_law_135, eL_law_138, eL_law_139, eL_law_140, eL_law_142, eL_law_145, eL_law_146, eL_law_149, eL_law_150, eL_law_152, eL_law_153, eL_law_157, eL_law_159, eL_law_162, eL_law_163, eL_law_166, eL_law_167, eL_law_170, eL_law_172, eL_law_175, eL_law_176, eL_law_179, eL_law_180, eL_law_181, eL_law_184, eL_law_187, eL_law_188, eL_law_192, eL_law_194, eL_law_197, eL_law_198, eL_law_201, eL_law_202, eL_law_203, eL_law_205, eL_law_206, eL_law_209, eL_law_211, eL_law_212, eL_law_213, eL_law_215, eL_law_216, eL_law_217, eL_law_218, eL_law_221, eL_law_223, eL_law_224, eL_law_226, eL_law_228, eL_law_231, eL_law_232, eL_law_235, eL_law_237, eL_law_238, eL_law_239, eL_law_241, eL_law_244, eL_law_246, eL_law_248, eL_law_249, eL_law_251, eL_law_254, eL_law_257, eL_law_258, eL_law_261, eL_law_264, eL_law_266, eL_law_268, eL_law_269, eL_law_271, eL_law_274, eL_law_275, eL_law_278, eL_law_281, eL_law_282, eL_law_285, eL_law_286, eL_law_287, eL_law_289, eL_law_290, eL_law_291, eL_law_294, eL_law_297, eL_law_299, eL_law_300, eL_law_303, eL_law_304, eL_law_306, eL_law_309, eL_law_312, eL_law_313, eL_law_316, eL_law_319, eL_law_320, eL_law_323, eL_law_324, eL_law_325, eL_law_326, eL_law_329, eL_law_331, eL_law_332, eL_law_333, eL_law_334, eL_law_337, eL_law_338, eL_law_341, eL_law_343, eL_law_344, eL_law_346, eL_law_349, eL_law_352, eL_law_355, eL_law_358, eL_law_359, eL_law_361, eL_law_364, eL_law_367, eL_law_368, eL_law_371, eL_law_374, eL_law_375, eL_law_378, eL_law_381, eL_law_382, eL_law_385, eL_law_387, eL_law_388, eL_law_391, eL_law_392, eL_law_395, eL_law_396, eL_law_397, eL_law_400, eL_law_404, eL_law_407, eL_law_408, eL_law_411, eL_law_414, eL_law_415, eL_law_418, eL_law_419, ret_l, one0, and_false, false_and, gk, gr, gi, gs, rv_some, ret_i, ret_n, Option.bind_some, List.cons_append, List.nil_append, z0, z1, zi, zj, i10, i01, true_or, or_true, eq_self, not_false_eq_true, not_true_eq_false, if_true, if_false, ite_not, Decidable.not_not, and_true, true_and, or_false, false_or, Nat.reduceLeDiff, Nat.reduceMod, Nat.reduceEqDiff, e]
  | succ k ih =>
    intro t F I s nR n m H l6 l7 l8 l9 l10 ht hcl h hF hR
    have hD := hcl.1
    have e60 : (nI t < 60) = True := lt_t (n := 60) (by omega) (by omega)
    have ct6 : (nI t < 6) = (t < 6) := lt_iff (n := 6) (by omega) (by omega)
    obtain ⟨v, hv⟩ := cell_all (xs := xs) hxl (show 2 * t < 100000 by omega)
    obtain ⟨w, hw⟩ := cell_all (xs := xs) hxl (show 2 * t + 1 < 100000 by omega)
    have e2t : (2 : Int32) * nI t = nI (2 * t) := pk_mul 2 t
    have b24 := lowV_lt (v >>> (2 &&& 31)) (n := 24) (by omega)
    -- what is done
    have hact : ∃ q, q < 24 ∧ (q < 4 ∨ 1 ≤ nR) ∧ pm_ev tb xl xs mL_law 190 [some (.double 0), some (.ref 0), some (.int 1), some (.int (nI A)), some (.int (nI B)), some (.int (nI t)), l6, l7, l8, l9, l10] [] (pm_G F I) = (pm_ev tb xl xs mL_acts 0 [some (.ref 0), some (.int (nI q)), some (.int (v >>> (7 &&& 31))), some (.int w), none, none, none, none, none, none, none, none, none, none, none, none, none, none, none] [] (pm_G F I)).bind fun r => pm_ev tb xl xs mL_law 254 [some (.double 0), some (.ref 0), some (.int 1), some (.int (nI A)), some (.int (nI B)), some (.int (nI t)), some (.int v), some (.int w), l8, l9, l10] (r.1.toList ++ []) r.2 := by
      by_cases h6 : t < 6
      · refine ⟨0, by omega, Or.inl (by omega), ?_⟩
        rw [eL_law_190]
        simp only [eL_law_192, eL_law_194, eL_law_197, eL_law_198, eL_law_201, eL_law_202, eL_law_203, eL_law_205, eL_law_206, eL_law_209, eL_law_211, eL_law_212, eL_law_213, eL_law_215, eL_law_216, eL_law_217, eL_law_218, eL_law_221, eL_law_223, eL_law_224, eL_law_226, eL_law_228, eL_law_231, eL_law_232, eL_law_235, eL_law_237, eL_law_238, eL_law_239, eL_law_241, eL_law_244, eL_law_246, eL_law_248, eL_law_249, eL_law_251, ret_l, one0, and_false, false_and, gk, gr, gi, gs, rv_some, ret_i, ret_n, Option.bind_some, List.cons_append, List.nil_append, z0, z1, zi, zj, i10, i01, true_or, or_true, eq_self, not_false_eq_true, not_true_eq_false, if_true, if_false, ite_not, Decidable.not_not, and_true, true_and, or_false, false_or, Nat.reduceLeDiff, Nat.reduceMod, Nat.reduceEqDiff, e60, e2t, hv, nI_1, hw, ct6, h6]
        rfl
      · refine ⟨lowV (v >>> (2 &&& 31)) 24, b24, Or.inr (hR.resolve_left h6), ?_⟩
        rw [eL_law_190]
        simp only [eL_law_192, eL_law_194, eL_law_197, eL_law_198, eL_law_201, eL_law_202, eL_law_203, eL_law_205, eL_law_206, eL_law_209, eL_law_211, eL_law_212, eL_law_213, eL_law_215, eL_law_216, eL_law_217, eL_law_218, eL_law_221, eL_law_223, eL_law_224, eL_law_226, eL_law_228, eL_law_231, eL_law_232, eL_law_235, eL_law_237, eL_law_238, eL_law_239, eL_law_241, eL_law_244, eL_law_246, eL_law_248, eL_law_249, eL_law_251, ret_l, one0, and_false, false_and, gk, gr, gi, gs, rv_some, ret_i, ret_n, Option.bind_some, List.cons_append, List.nil_append, z0, z1, zi, zj, i10, i01, true_or, or_true, eq_self, not_false_eq_true, not_true_eq_false, if_true, if_false, ite_not, Decidable.not_not, and_true, true_and, or_false, false_or, Nat.reduceLeDiff, Nat.reduceMod, Nat.reduceEqDiff, e60, e2t, hv, nI_1, hw, ct6, h6, low24]
    obtain ⟨q, hq, hqR, hact⟩ := hact
    obtain ⟨I1, n1, m1, H1, s1, nR1, ea, hcl1, hP1, hle, h1R⟩ := acts_ev (xl := xl) (xs := xs) hcl h (by omega) hA hB hq hqR (v := v >>> (7 &&& 31)) (w := w)
    obtain ⟨F2, I2, ef, hcl2, f1, f2⟩ := fits_ev (xl := xl) (xs := xs) hcl1 hP1 (by omega) hF
    have h8 := hP1.1.1.1.2.1.2
    have h40 := hP1.1.1.1.2.2.1.2
    obtain ⟨I3, er, hcl3, -⟩ := refused_ev (xl := xl) (xs := xs) hcl2 hP1.1 (by omega) (best_no h8)
    have e9 : nI t - nI t / 9 * 9 = nI (t % 9) := pk_rem (d := 9) (by omega) (by omega) (by omega)
    have e5 : nI t - nI t / 5 * 5 = nI (t % 5) := pk_rem (d := 5) (by omega) (by omega) (by omega)
    have z9 : ¬ (9 : Int32) = 0 := by decide
    have z5 : ¬ (5 : Int32) = 0 := by decide
    have c9 : (nI (t % 9) = 7) = (t % 9 = 7) := eq_iff (n := 7) (by omega) (by omega)
    have c5 : (nI (t % 5) = 4) = (t % 5 = 4) := eq_iff (n := 4) (by omega) (by omega)
    have bk := lowV_lt w h1R
    have lk := fun M => low_v (xl := xl) (xs := xs) (M := M) (v := w) (n := nR1) h1R (by omega)
    have hlt1 : (pm_G F I) = pm_G F I := rfl
    -- fits, and at times what is refused
    have hmid : ∃ I4, pm_ev tb xl xs mL_law 190 [some (.double 0), some (.ref 0), some (.int 1), some (.int (nI A)), some (.int (nI B)), some (.int (nI t)), l6, l7, l8, l9, l10] [] (pm_G F I) = pm_ev tb xl xs mL_law 287 [some (.double 0), some (.ref 0), some (.int 1), some (.int (nI A)), some (.int (nI B)), some (.int (nI t)), some (.int v), some (.int w), l8, l9, l10] [] (pm_G F2 I4) ∧ Cl F2 I4 s1 A B nR1 n1 m1 H1 := by
      by_cases h97 : t % 9 = 7
      · refine ⟨I3, ?_, hcl3⟩
        have h97 := eq_true h97
        rw [hact]
        simp only [eL_law_254, eL_law_257, eL_law_258, eL_law_261, eL_law_264, eL_law_266, eL_law_268, eL_law_269, eL_law_271, eL_law_274, eL_law_275, eL_law_278, eL_law_281, eL_law_282, eL_law_285, eL_law_286, ret_l, one0, and_false, false_and, gk, gr, gi, gs, rv_some, ret_i, ret_n, Option.bind_some, List.cons_append, List.nil_append, z0, z1, zi, zj, i10, i01, true_or, or_true, eq_self, not_false_eq_true, not_true_eq_false, if_true, if_false, ite_not, Decidable.not_not, and_true, true_and, or_false, false_or, Nat.reduceLeDiff, Nat.reduceMod, Nat.reduceEqDiff, ea, ef, er, z9, e9, c9, h97, one0]
      · refine ⟨I2, ?_, hcl2⟩
        have h97 := eq_false h97
        rw [hact]
        simp only [eL_law_254, eL_law_257, eL_law_258, eL_law_261, eL_law_264, eL_law_266, eL_law_268, eL_law_269, eL_law_271, eL_law_274, eL_law_275, eL_law_278, eL_law_281, eL_law_282, eL_law_285, eL_law_286, ret_l, one0, and_false, false_and, gk, gr, gi, gs, rv_some, ret_i, ret_n, Option.bind_some, List.cons_append, List.nil_append, z0, z1, zi, zj, i10, i01, true_or, or_true, eq_self, not_false_eq_true, not_true_eq_false, if_true, if_false, ite_not, Decidable.not_not, and_true, true_and, or_false, false_or, Nat.reduceLeDiff, Nat.reduceMod, Nat.reduceEqDiff, ea, ef, z9, e9, c9, h97, one0]
    obtain ⟨I4, em, hcl4⟩ := hmid
    obtain ⟨I5, n5, m5, H5, ec, hcl5⟩ := comesSo_ev (xl := xl) (xs := xs) hcl4 hP1 (by omega) bk
    obtain ⟨I6, n6, m6, H6, ei, hcl6⟩ := isFilled_ev (xl := xl) (xs := xs) hcl5 hP1.1 (by omega)
    have cn5' := cn5 (xl := xl) (xs := xs) hcl4 hP1.1
    rw [em]
    have hrest : ∃ I7 n7 m7 H7 l9' l10', pm_ev tb xl xs mL_law 287 [some (.double 0), some (.ref 0), some (.int 1), some (.int (nI A)), some (.int (nI B)), some (.int (nI t)), some (.int v), some (.int w), l8, l9, l10] [] (pm_G F2 I4) = pm_ev tb xl xs mL_law 397 [some (.double 0), some (.ref 0), some (.int 1), some (.int (nI A)), some (.int (nI B)), some (.int (nI t)), some (.int v), some (.int w), some (.int (nI (lowV w nR1))), l9', l10'] [] (pm_G F2 I7) ∧ Cl F2 I7 s1 A B nR1 n7 m7 H7 := by
      by_cases h54 : t % 5 = 4
      · obtain ⟨I7, n7, m7, H7, eb, hcl7⟩ := both_back (xl := xl) (xs := xs) hcl6 hP1 (by omega) (v := v) (l7 := some (.int w)) (l8 := some (.int (nI (lowV w nR1)))) (l9 := l9) (l10 := l10) (t := nI t) (A := nI A) (B := nI B)
        refine ⟨I7, n7, m7, H7, some (.long (sumS s1 A B nR1)), none, ?_, hcl7⟩
        have h54 := eq_true h54
        simp only [eL_law_287, eL_law_289, eL_law_290, eL_law_291, eL_law_294, eL_law_297, eL_law_299, eL_law_300, eL_law_303, eL_law_304, eL_law_306, eL_law_309, eL_law_312, eL_law_313, eL_law_316, eL_law_319, eL_law_320, eL_law_323, eL_law_324, eL_law_325, eL_law_326, eL_law_329, eL_law_331, eL_law_332, eL_law_333, eL_law_334, ret_l, one0, and_false, false_and, gk, gr, gi, gs, rv_some, ret_i, ret_n, Option.bind_some, List.cons_append, List.nil_append, z0, z1, zi, zj, i10, i01, true_or, or_true, eq_self, not_false_eq_true, not_true_eq_false, if_true, if_false, ite_not, Decidable.not_not, and_true, true_and, or_false, false_or, Nat.reduceLeDiff, Nat.reduceMod, Nat.reduceEqDiff, ld0 hcl4.1, cn5', lk, ec, ei, one0, z5, e5, c5, h54]
        exact eb
      · refine ⟨I6, n6, m6, H6, l9, l10, ?_, hcl6⟩
        have h54 := eq_false h54
        simp only [eL_law_287, eL_law_289, eL_law_290, eL_law_291, eL_law_294, eL_law_297, eL_law_299, eL_law_300, eL_law_303, eL_law_304, eL_law_306, eL_law_309, eL_law_312, eL_law_313, eL_law_316, eL_law_319, eL_law_320, eL_law_323, eL_law_324, eL_law_325, eL_law_326, eL_law_329, eL_law_331, eL_law_332, eL_law_333, eL_law_334, ret_l, one0, and_false, false_and, gk, gr, gi, gs, rv_some, ret_i, ret_n, Option.bind_some, List.cons_append, List.nil_append, z0, z1, zi, zj, i10, i01, true_or, or_true, eq_self, not_false_eq_true, not_true_eq_false, if_true, if_false, ite_not, Decidable.not_not, and_true, true_and, or_false, false_or, Nat.reduceLeDiff, Nat.reduceMod, Nat.reduceEqDiff, ld0 hcl4.1, cn5', lk, ec, ei, one0, z5, e5, c5, h54]
    obtain ⟨I7, n7, m7, H7, l9', l10', e7, hcl7⟩ := hrest
    obtain ⟨F', I', s', nR', n', m', H', l6', l7', l8', l9'', l10'', e8, hcl8, hP8, g1, g2⟩ := ih (t + 1) F2 I7 s1 nR1 n7 m7 H7 (some (.int v)) (some (.int w)) (some (.int (nI (lowV w nR1)))) l9' l10' (by omega) hcl7 (by rw [show 10 + (t + 1) = 10 + t + 1 by omega]; exact hP1) (by omega) (Or.inr h1R)
    refine ⟨F', I', s', nR', n', m', H', l6', l7', l8', l9'', l10'', ?_, hcl8, hP8, by omega, by omega⟩
    rw [e7]
    simp only [eL_law_397, eL_law_400, nI_1]
    exact e8
end LAW3
