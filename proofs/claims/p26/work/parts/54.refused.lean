/-! what is refused changes nothing -/
theorem lgc (x : Int64) : lg_cmp x x = 0 := by
  unfold lg_cmp
  rw [if_neg (show ¬ x > x from Int64.lt_irrefl), if_pos rfl]
theorem ret_l {v : Int64} : (some (Value.long v)).toList = [Value.long v] := rfl
theorem outn {n : Nat} (h : n < 1000) : out (nI n) n := Or.inr (by rw [cl_n (by omega)]; exact Nat.le_refl n)
theorem outm {n : Nat} : out (-1) n := Or.inl (by decide)
section REFU
variable {xl : Nat} {xs : Nat → Int32} {F : pm_F} {I : Nat → Nat → Int32} {N : Nat} {s s' : St} {nA nH nR nA' nH' nR' n m : Nat} {H : Nat → St} {v : Int32}
theorem refused_ev (hcl : Cl F I s nA nH nR n m H) (hFI : FI N s nA nH nR) (hN : N < 400) (hb : bestS s nR nH (nI nH) = -10009) : ∃ I1, pm_ev tb xl xs mL_refused 0 [some (.ref 0), none, none, none, none, none, none, none] [] (pm_G F I) = some (some (.int 1), pm_G F I1) ∧ Cl F I1 s nA nH nR n m H ∧ ∀ k, k ≠ 582 → I1 k = I k := by
  have hcl0 := hcl
  have hD := hcl.1
  have hR := hcl.2.1
  have hF4 := hcl.2.2.1
  have hC := hcl.2.2.2
  have hB := ldB hD
  have h6 := hFI.1.1.1.2
  have h8 := hFI.1.1.2.1.2
  have h40 := hFI.1.1.2.2.1.2
  have hnA := hFI.1.1.1.1
  have hnH := hFI.1.1.2.1.1
  have hnR := hFI.1.1.2.2.1.1
  have qA : I 1 3 = nI nA := (rbg3 hR).trans hnA
  have qH : I 1 4 = nI nH := (rbg4 hR).trans hnH
  have qR : I 1 5 = nI nR := (rbg5 hR).trans hnR
  have hrb := hFI.rb
  have hv : ¬ nI nH < 0 := nI_pos (by omega)
  obtain ⟨I1, e1, hcl1, hk1⟩ := be_ev (xl := xl) (xs := xs) hcl0 hFI hv
  rw [hb] at e1
  have a1 : pm_ev tb xl xs mX4_addAsset 0 [some (.ref 0), some (.int 0), some (.int 0)] [] (pm_G F I) = some (some (.int (-10001)), pm_G F I) := by
    have := op_addAsset (xl := xl) (xs := xs) hcl0 hFI hN 0 0
    unfold o_asset at this
    rw [if_pos (Or.inl (by decide))] at this
    exact this
  have a2 : pm_ev tb xl xs mX4_fill 0 [some (.ref 0), some (.int (-1))] [] (pm_G F I) = some (some (.int (-10001)), pm_G F I) := by
    have := op_fill (xl := xl) (xs := xs) hcl0 hFI hN (-1)
    unfold o_fill at this
    rw [if_pos (Or.inl (by decide))] at this
    exact this
  have a3 : pm_ev tb xl xs mX4_setRate 0 [some (.ref 0), some (.int 20), none] [] (pm_G F I) = some (some (.int (-10001)), pm_G F I) := by
    have := op_setRate (xl := xl) (xs := xs) hcl0 hFI hN 20
    unfold o_rate at this
    rw [if_pos (Or.inl (by decide))] at this
    exact this
  have a4 : pm_ev tb xl xs mX4_setBonus 0 [some (.ref 0), some (.int 1000), none] [] (pm_G F I) = some (some (.int (-10001)), pm_G F I) := by
    have := op_setBonus (xl := xl) (xs := xs) hcl0 hFI hN 1000
    unfold o_bonus at this
    rw [if_pos (Or.inr (by decide))] at this
    exact this
  have oA : out (nI nA) nA := outn (by omega)
  have oH : out (nI nH) nH := outn (by omega)
  have oR : out (nI nR) nR := outn (by omega)
  refine ⟨I1, ?_, hcl1, hk1⟩
  have g1 : (0 : Int32) < 1 ∨ (4 : Int32) < 0 := Or.inl (by decide)
  have g2 : (1 : Int32) < 2 ∨ (4 : Int32) < 1 := Or.inl (by decide)
  have g3 : (-5 : Int32) < 1 ∨ (400 : Int32) < -5 := Or.inl (by decide)
  have g4 : (-1 : Int32) < 0 ∨ (99 : Int32) < -1 := Or.inl (by decide)
  have lhD := hcl1.1
  have s0 := sum_ev (xl := xl) (xs := xs) hcl0 hFI hN
  have s1 := sum_ev (xl := xl) (xs := xs) hcl1 hFI hN
  simp only [eL_refused_0, eL_refused_1, eL_refused_4, eL_refused_5, eL_refused_6, eL_refused_8, eL_refused_11, eL_refused_12, eL_refused_13, eL_refused_14, eL_refused_17, eL_refused_19, eL_refused_20, eL_refused_21, eL_refused_24, eL_refused_26, eL_refused_27, eL_refused_28, eL_refused_31, eL_refused_33, eL_refused_34, eL_refused_35, eL_refused_36, eL_refused_39, eL_refused_42, eL_refused_45, eL_refused_46, eL_refused_47, eL_refused_50, eL_refused_53, eL_refused_56, eL_refused_57, eL_refused_59, eL_refused_62, eL_refused_65, eL_refused_68, eL_refused_69, eL_refused_72, eL_refused_75, eL_refused_78, eL_refused_81, eL_refused_82, eL_refused_84, eL_refused_85, eL_refused_86, eL_refused_89, eL_refused_92, eL_refused_95, eL_refused_96, eL_refused_97, eL_refused_99, eL_refused_100, eL_refused_103, eL_refused_106, eL_refused_109, eL_refused_110, eL_refused_111, eL_refused_112, eL_refused_113, eL_refused_116, eL_refused_119, eL_refused_122, eL_refused_123, eL_refused_125, eL_refused_128, eL_refused_131, eL_refused_134, eL_refused_135, eL_refused_137, eL_refused_138, eL_refused_141, eL_refused_144, eL_refused_147, eL_refused_148, eL_refused_149, eL_refused_150, eL_refused_153, eL_refused_156, eL_refused_159, eL_refused_160, eL_refused_161, eL_refused_164, eL_refused_167, eL_refused_170, eL_refused_171, eL_refused_172, eL_refused_173, eL_refused_176, eL_refused_179, eL_refused_182, eL_refused_183, eL_refused_185, eL_refused_186, eL_refused_189, eL_refused_192, eL_refused_195, eL_refused_196, eL_refused_198, eL_refused_201, eL_refused_204, eL_refused_207, eL_refused_208, eL_refused_210, eL_refused_211, eL_refused_212, eL_refused_215, eL_refused_218, eL_refused_221, eL_refused_222, eL_refused_224, eL_refused_227, eL_refused_230, eL_refused_233, eL_refused_234, eL_refused_236, eL_refused_239, eL_refused_242, eL_refused_245, eL_refused_246, eL_refused_248, eL_refused_251, eL_refused_254, eL_refused_257, eL_refused_258, eL_refused_259, eL_refused_262, eL_refused_265, eL_refused_268, eL_refused_269, eL_refused_271, eL_refused_274, eL_refused_277, eL_refused_280, eL_refused_281, eL_refused_283, eL_refused_284, eL_refused_287, eL_refused_290, eL_refused_293, eL_refused_294, eL_refused_296, eL_refused_297, eL_refused_300, eL_refused_303, eL_refused_306, eL_refused_307, eL_refused_309, eL_refused_310, eL_refused_313, eL_refused_316, eL_refused_319, eL_refused_320, eL_refused_322, eL_refused_325, eL_refused_328, eL_refused_331, eL_refused_332, eL_refused_335, eL_refused_336, eL_refused_338, eL_refused_340, eL_refused_343, eL_refused_344, eL_refused_347, eL_refused_348, eL_refused_349, eL_refused_352, eL_refused_353, eL_refused_355, eL_refused_358, eL_refused_359, eL_refused_362, eL_refused_363, eL_refused_366, eL_refused_367, ret_l, one0, and_false, false_and, gk, gr, gi, gs, rv_some, ret_i, ret_n, Option.bind_some, List.cons_append, List.nil_append, z0, z1, zi, zj, i10, i01, true_or, or_true, eq_self, not_false_eq_true, not_true_eq_false, if_true, if_false, ite_not, Decidable.not_not, and_true, true_and, or_false, false_or, Nat.reduceLeDiff, Nat.reduceMod, Nat.reduceEqDiff, ld0 hD, s0, s1, lgc, cn3 hcl0 hFI, cn4 hcl0 hFI, cn5 hcl0 hFI, cn16 hcl0 hFI, cn16 hcl1 hFI, cn17 hcl1 hFI, a1, a2, a3, a4, op_report_h hcl0 hFI oH, op_report_a hcl0 hFI oA, op_report_f hcl0 hFI g4, op_fold_out hcl0 hFI oR, op_grade_out hcl0 hFI (w := 1) (Or.inl oR), op_grade_out hcl0 hFI (v := 0) (Or.inr g1), op_refuse_out hcl0 hFI (v := -1) outm, op_appeal_out hcl0 hFI (v := 0) (Or.inr g2), op_decide_out hcl0 hFI oR, op_pay_out hcl0 hFI oR, op_retest_out hcl0 hFI oH, op_pass_out hcl0 g3, or_out hcl0 hFI oR, pi_out hcl0 hFI oR, be_neg, e1, as_out hcl1 hFI oA, hu_out hcl1 hFI oH, re_out hcl1 hFI oR]
end REFU
