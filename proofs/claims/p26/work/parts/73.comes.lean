/-! a report that waits is paid when it is told -/
section COMES
variable {xl : Nat} {xs : Nat → Int32} {F : pm_F} {I : Nat → Nat → Int32} {N : Nat} {s s' : St} {nA nH nR nA' nH' nR' n m : Nat} {H : Nat → St} {v : Int32}
variable {Rb Mb Nb : Nat}
theorem q_s (nA nR : Nat) (s : St) (i : Nat) : lp (qG nA nR) 0 (i + 1) (s, 0) = ((begS (lp (qG nA nR) 0 i (s, 0)).1 nA nR).1, (lp (qG nA nR) 0 i (s, 0)).2 + (begS (lp (qG nA nR) 0 i (s, 0)).1 nA nR).2) := lp_last _ _ _ _
theorem pin_all (hI : Iv s nA nH nR) (b : Bd Rb Mb Nb s nA nH) (hR : Rb + 1800000 < 100000000) (hM : Mb + 2000000 < 2147483648) {r : Nat} (hr : r < nR) : ∀ k j dd, j + k = 12 → rp (lp (qG nA nR) 0 j (s, 0)).1 r 3 = 2 →
    pIn nA nR r k dd (lp (qG nA nR) 0 j (s, 0)).1 = -10009 ∨ ∃ i, j ≤ i ∧ i < 12 ∧ pIn nA nR r k dd (lp (qG nA nR) 0 j (s, 0)).1 = nI (dd + 90 * (i - j)) ∧ rp (lp (qG nA nR) 0 (i + 1) (s, 0)).1 r 3 = 3 ∧ rp (lp (qG nA nR) 0 i (s, 0)).1 r 3 = 2 ∧ 0 < (begS (lp (qG nA nR) 0 i (s, 0)).1 nA nR).2 := by
  intro k
  induction k with
  | zero => intro j dd hj h2; exact Or.inl rfl
  | succ k ih =>
    intro j dd hj h2
    obtain ⟨b1, i1⟩ := q_inv hI b j (by omega) (by omega)
    have hst := beg_st i1 b1 (by omega) (by omega) hr h2
    have e := q_s nA nR s j
    rw [pIn_s]
    rcases hst with g | ⟨g, g0⟩
    · rw [if_neg (by rw [g]; decide)]
      have e2 : (lp (qG nA nR) 0 (j + 1) (s, 0)).1 = (begS (lp (qG nA nR) 0 j (s, 0)).1 nA nR).1 := by rw [e]
      have := ih (j + 1) (dd + 90) (by omega) (by rw [e2]; exact g)
      rw [e2] at this
      rcases this with q | ⟨i, h1, h3, h4, h5⟩
      · exact Or.inl q
      · exact Or.inr ⟨i, by omega, h3, by rw [h4]; exact congrArg nI (by omega), h5⟩
    · rw [if_pos g]
      exact Or.inr ⟨j, Nat.le_refl _, by omega, congrArg nI (by omega), by rw [e]; exact g, h2, g0⟩
theorem pass_ok (hcl : Cl F I s nA nH nR n m H) (hFI : FI N s nA nH nR) (hN : N < 400) {d k : Nat} (hd0 : gp s 0 = nI d) (hd : d < 10000) (hk1 : 1 ≤ k) (hk2 : k ≤ 400) (h9 : d + k ≤ 9999) : Dd F N I s n H (fun M => pm_ev tb xl xs mX4_pass 0 [some (.ref 0), some (.int (nI k)), none, none, none] [] M) (lp (qG nA nR) 0 ((d + k) / 90 - d / 90) (s, 0)).2 (sG (lp (qG nA nR) 0 ((d + k) / 90 - d / 90) (s, 0)).1 0 (nI (d + k))) nA nH nR := by
  have := op_pass (xl := xl) (xs := xs) hcl hFI hN hd0 hd hk1 hk2
  unfold o_pass at this
  rw [if_neg (by omega)] at this
  exact this
theorem comesSo_ev (hcl : Cl F I s nA nH nR n m H) (h : PI N s nA nH nR) (hN : N < 300) {r : Nat} (hr : r < nR) : ∃ I' n' m' H', pm_ev tb xl xs mL_comesSo 0 [some (.ref 0), some (.int (nI r)), none, none, none, none] [] (pm_G F I) = some (some (.int 1), pm_G F I') ∧ Cl F I' s nA nH nR n' m' H' := by
  have hFI := h.1
  have hD := hcl.1
  have hrb := hFI.rb
  have h8 := hFI.1.1.2.1.2
  have h40 := hFI.1.1.2.2.1.2
  obtain ⟨v3, -, -, -⟩ := (hFI.1.2 r hr).1
  by_cases h2 : rp s r 3 = 2
  · obtain ⟨d, hd, hd0, -⟩ := vin hFI.2.1.1 (by omega)
    obtain ⟨I1, e1, hcl1, -⟩ := pi_ev (xl := xl) (xs := xs) hcl hFI hr h2 hd0 hd
    have hpin := pin_all hFI.1 hFI.2 (by omega) (by omega) hr 12 0 (90 - d % 90) (by omega) h2
    have hpin : pIn nA nR r 12 (90 - d % 90) s = -10009 ∨ ∃ i, 0 ≤ i ∧ i < 12 ∧ pIn nA nR r 12 (90 - d % 90) s = nI (90 - d % 90 + 90 * (i - 0)) ∧ rp (lp (qG nA nR) 0 (i + 1) (s, 0)).1 r 3 = 3 ∧ rp (lp (qG nA nR) 0 i (s, 0)).1 r 3 = 2 ∧ 0 < (begS (lp (qG nA nR) 0 i (s, 0)).1 nA nR).2 := hpin
    have hq := fun i (hi : i < 13) => qs_all hFI.1 hFI.2 i (by omega) (by omega) h.2.2.2.1
    have f32 := eq_true h2
    by_cases h6 : rp s r 6 = 1
    · have hno : pIn nA nR r 12 (90 - d % 90) s = -10009 := by
        rcases hpin with q | ⟨i, -, hi, -, q3, -⟩
        · exact q
        · rcases ((hq (i + 1) (by omega)).1.2.2.2 r hr).2 with ⟨a, -⟩ | ⟨-, a, -⟩
          · rw [a, h2] at q3; exact absurd q3 (by decide)
          · exact absurd h6 a
      rw [hno] at e1
      have f6 := eq_true h6
      refine ⟨I1, n, m, H, ?_, hcl1⟩
      simp only [eL_comesSo_0, eL_comesSo_1, eL_comesSo_2, eL_comesSo_5, eL_comesSo_6, eL_comesSo_7, eL_comesSo_8, eL_comesSo_9, eL_comesSo_12, eL_comesSo_13, eL_comesSo_16, eL_comesSo_17, eL_comesSo_20, eL_comesSo_23, eL_comesSo_24, eL_comesSo_27, eL_comesSo_28, eL_comesSo_29, eL_comesSo_30, eL_comesSo_31, eL_comesSo_33, eL_comesSo_36, eL_comesSo_37, eL_comesSo_40, eL_comesSo_41, eL_comesSo_44, eL_comesSo_47, eL_comesSo_48, eL_comesSo_51, eL_comesSo_52, eL_comesSo_53, eL_comesSo_54, eL_comesSo_57, eL_comesSo_60, eL_comesSo_61, eL_comesSo_64, eL_comesSo_67, eL_comesSo_68, eL_comesSo_69, eL_comesSo_72, eL_comesSo_73, eL_comesSo_74, eL_comesSo_77, eL_comesSo_80, eL_comesSo_81, eL_comesSo_84, eL_comesSo_87, eL_comesSo_88, eL_comesSo_91, eL_comesSo_92, eL_comesSo_93, eL_comesSo_96, eL_comesSo_97, eL_comesSo_98, eL_comesSo_100, eL_comesSo_101, eL_comesSo_104, eL_comesSo_105, eL_comesSo_108, eL_comesSo_109, eL_comesSo_110, eL_comesSo_111, eL_comesSo_114, eL_comesSo_115, eL_comesSo_116, eL_comesSo_119, eL_comesSo_120, eL_comesSo_121, eL_comesSo_124, eL_comesSo_125, eL_comesSo_126, eL_comesSo_128, eL_comesSo_129, eL_comesSo_132, eL_comesSo_133, eL_comesSo_134, eL_comesSo_137, eL_comesSo_140, eL_comesSo_141, eL_comesSo_142, eL_comesSo_143, eL_comesSo_146, eL_comesSo_147, eL_comesSo_150, eL_comesSo_151, eL_comesSo_152, eL_comesSo_154, eL_comesSo_157, eL_comesSo_158, eL_comesSo_159, eL_comesSo_161, eL_comesSo_164, eL_comesSo_167, eL_comesSo_168, eL_comesSo_171, eL_comesSo_174, eL_comesSo_175, eL_comesSo_178, eL_comesSo_179, eL_comesSo_180, eL_comesSo_183, eL_comesSo_184, eL_comesSo_187, eL_comesSo_188, eL_comesSo_190, eL_comesSo_192, eL_comesSo_195, eL_comesSo_196, eL_comesSo_197, eL_comesSo_200, eL_comesSo_201, eL_comesSo_202, eL_comesSo_203, eL_comesSo_204, eL_comesSo_207, eL_comesSo_210, eL_comesSo_211, eL_comesSo_212, eL_comesSo_213, eL_comesSo_216, eL_comesSo_217, eL_comesSo_220, eL_comesSo_221, eL_comesSo_222, eL_comesSo_225, eL_comesSo_226, eL_comesSo_229, eL_comesSo_230, eL_comesSo_233, eL_comesSo_236, eL_comesSo_237, eL_comesSo_240, eL_comesSo_241, eL_comesSo_242, eL_comesSo_245, eL_comesSo_246, eL_comesSo_249, eL_comesSo_250, eL_comesSo_252, eL_comesSo_254, ret_l, one0, and_false, false_and, gk, gr, gi, gs, rv_some, ret_i, ret_n, Option.bind_some, List.cons_append, List.nil_append, z0, z1, zi, zj, i10, i01, true_or, or_true, eq_self, not_false_eq_true, not_true_eq_false, if_true, if_false, ite_not, Decidable.not_not, and_true, true_and, or_false, false_or, Nat.reduceLeDiff, Nat.reduceMod, Nat.reduceEqDiff, ld0 hD, e1, re3 hcl1 hFI hr, re8 hcl1 hFI hr, f32, f6, z1]
    · have f6 := eq_false h6
      rcases hpin with q | ⟨i, -, hi, q, q3, q2, q0⟩
      · rw [q] at e1
        refine ⟨I1, n, m, H, ?_, hcl1⟩
        simp only [eL_comesSo_0, eL_comesSo_1, eL_comesSo_2, eL_comesSo_5, eL_comesSo_6, eL_comesSo_7, eL_comesSo_8, eL_comesSo_9, eL_comesSo_12, eL_comesSo_13, eL_comesSo_16, eL_comesSo_17, eL_comesSo_20, eL_comesSo_23, eL_comesSo_24, eL_comesSo_27, eL_comesSo_28, eL_comesSo_29, eL_comesSo_30, eL_comesSo_31, eL_comesSo_33, eL_comesSo_36, eL_comesSo_37, eL_comesSo_40, eL_comesSo_41, eL_comesSo_44, eL_comesSo_47, eL_comesSo_48, eL_comesSo_51, eL_comesSo_52, eL_comesSo_53, eL_comesSo_54, eL_comesSo_57, eL_comesSo_60, eL_comesSo_61, eL_comesSo_64, eL_comesSo_67, eL_comesSo_68, eL_comesSo_69, eL_comesSo_72, eL_comesSo_73, eL_comesSo_74, eL_comesSo_77, eL_comesSo_80, eL_comesSo_81, eL_comesSo_84, eL_comesSo_87, eL_comesSo_88, eL_comesSo_91, eL_comesSo_92, eL_comesSo_93, eL_comesSo_96, eL_comesSo_97, eL_comesSo_98, eL_comesSo_100, eL_comesSo_101, eL_comesSo_104, eL_comesSo_105, eL_comesSo_108, eL_comesSo_109, eL_comesSo_110, eL_comesSo_111, eL_comesSo_114, eL_comesSo_115, eL_comesSo_116, eL_comesSo_119, eL_comesSo_120, eL_comesSo_121, eL_comesSo_124, eL_comesSo_125, eL_comesSo_126, eL_comesSo_128, eL_comesSo_129, eL_comesSo_132, eL_comesSo_133, eL_comesSo_134, eL_comesSo_137, eL_comesSo_140, eL_comesSo_141, eL_comesSo_142, eL_comesSo_143, eL_comesSo_146, eL_comesSo_147, eL_comesSo_150, eL_comesSo_151, eL_comesSo_152, eL_comesSo_154, eL_comesSo_157, eL_comesSo_158, eL_comesSo_159, eL_comesSo_161, eL_comesSo_164, eL_comesSo_167, eL_comesSo_168, eL_comesSo_171, eL_comesSo_174, eL_comesSo_175, eL_comesSo_178, eL_comesSo_179, eL_comesSo_180, eL_comesSo_183, eL_comesSo_184, eL_comesSo_187, eL_comesSo_188, eL_comesSo_190, eL_comesSo_192, eL_comesSo_195, eL_comesSo_196, eL_comesSo_197, eL_comesSo_200, eL_comesSo_201, eL_comesSo_202, eL_comesSo_203, eL_comesSo_204, eL_comesSo_207, eL_comesSo_210, eL_comesSo_211, eL_comesSo_212, eL_comesSo_213, eL_comesSo_216, eL_comesSo_217, eL_comesSo_220, eL_comesSo_221, eL_comesSo_222, eL_comesSo_225, eL_comesSo_226, eL_comesSo_229, eL_comesSo_230, eL_comesSo_233, eL_comesSo_236, eL_comesSo_237, eL_comesSo_240, eL_comesSo_241, eL_comesSo_242, eL_comesSo_245, eL_comesSo_246, eL_comesSo_249, eL_comesSo_250, eL_comesSo_252, eL_comesSo_254, ret_l, one0, and_false, false_and, gk, gr, gi, gs, rv_some, ret_i, ret_n, Option.bind_some, List.cons_append, List.nil_append, z0, z1, zi, zj, i10, i01, true_or, or_true, eq_self, not_false_eq_true, not_true_eq_false, if_true, if_false, ite_not, Decidable.not_not, and_true, true_and, or_false, false_or, Nat.reduceLeDiff, Nat.reduceMod, Nat.reduceEqDiff, ld0 hD, e1, re3 hcl1 hFI hr, re8 hcl1 hFI hr, f32, f6, z1]
      · obtain ⟨k, hk⟩ : ∃ k, k = 90 - d % 90 + 90 * (i - 0) := ⟨_, rfl⟩
        rw [← hk] at q
        rw [q] at e1
        have k1 : 1 ≤ k := by omega
        have kq : d + k = 90 * (d / 90 + (i + 1)) := by omega
        have km : (d + k) % 90 = 0 := by omega
        have kd : (d + k) / 90 - d / 90 = i + 1 := by omega
        have g1 := n_none (show k < 1000000 by omega)
        have g2 : ((400 : Int32) < nI k) = (400 < k) := lt_iff (i := 400) (by omega) (by omega)
        have g3 : ((9999 : Int32) < nI (d + k)) = (9999 < d + k) := lt_iff (i := 9999) (by omega) (by omega)
        have g4 : (0 < nI k) = True := n_pos k1 (by omega)
        have g5 : nI (d + k) - nI (d + k) / 90 * 90 = 0 := by
          have := pk_rem (a := d + k) (d := 90) (by omega) (by omega) (by omega)
          rw [km] at this
          exact this
        by_cases hbig : 400 < k
        · refine ⟨I1, n, m, H, ?_, hcl1⟩
          simp only [eL_comesSo_0, eL_comesSo_1, eL_comesSo_2, eL_comesSo_5, eL_comesSo_6, eL_comesSo_7, eL_comesSo_8, eL_comesSo_9, eL_comesSo_12, eL_comesSo_13, eL_comesSo_16, eL_comesSo_17, eL_comesSo_20, eL_comesSo_23, eL_comesSo_24, eL_comesSo_27, eL_comesSo_28, eL_comesSo_29, eL_comesSo_30, eL_comesSo_31, eL_comesSo_33, eL_comesSo_36, eL_comesSo_37, eL_comesSo_40, eL_comesSo_41, eL_comesSo_44, eL_comesSo_47, eL_comesSo_48, eL_comesSo_51, eL_comesSo_52, eL_comesSo_53, eL_comesSo_54, eL_comesSo_57, eL_comesSo_60, eL_comesSo_61, eL_comesSo_64, eL_comesSo_67, eL_comesSo_68, eL_comesSo_69, eL_comesSo_72, eL_comesSo_73, eL_comesSo_74, eL_comesSo_77, eL_comesSo_80, eL_comesSo_81, eL_comesSo_84, eL_comesSo_87, eL_comesSo_88, eL_comesSo_91, eL_comesSo_92, eL_comesSo_93, eL_comesSo_96, eL_comesSo_97, eL_comesSo_98, eL_comesSo_100, eL_comesSo_101, eL_comesSo_104, eL_comesSo_105, eL_comesSo_108, eL_comesSo_109, eL_comesSo_110, eL_comesSo_111, eL_comesSo_114, eL_comesSo_115, eL_comesSo_116, eL_comesSo_119, eL_comesSo_120, eL_comesSo_121, eL_comesSo_124, eL_comesSo_125, eL_comesSo_126, eL_comesSo_128, eL_comesSo_129, eL_comesSo_132, eL_comesSo_133, eL_comesSo_134, eL_comesSo_137, eL_comesSo_140, eL_comesSo_141, eL_comesSo_142, eL_comesSo_143, eL_comesSo_146, eL_comesSo_147, eL_comesSo_150, eL_comesSo_151, eL_comesSo_152, eL_comesSo_154, eL_comesSo_157, eL_comesSo_158, eL_comesSo_159, eL_comesSo_161, eL_comesSo_164, eL_comesSo_167, eL_comesSo_168, eL_comesSo_171, eL_comesSo_174, eL_comesSo_175, eL_comesSo_178, eL_comesSo_179, eL_comesSo_180, eL_comesSo_183, eL_comesSo_184, eL_comesSo_187, eL_comesSo_188, eL_comesSo_190, eL_comesSo_192, eL_comesSo_195, eL_comesSo_196, eL_comesSo_197, eL_comesSo_200, eL_comesSo_201, eL_comesSo_202, eL_comesSo_203, eL_comesSo_204, eL_comesSo_207, eL_comesSo_210, eL_comesSo_211, eL_comesSo_212, eL_comesSo_213, eL_comesSo_216, eL_comesSo_217, eL_comesSo_220, eL_comesSo_221, eL_comesSo_222, eL_comesSo_225, eL_comesSo_226, eL_comesSo_229, eL_comesSo_230, eL_comesSo_233, eL_comesSo_236, eL_comesSo_237, eL_comesSo_240, eL_comesSo_241, eL_comesSo_242, eL_comesSo_245, eL_comesSo_246, eL_comesSo_249, eL_comesSo_250, eL_comesSo_252, eL_comesSo_254, ret_l, one0, and_false, false_and, gk, gr, gi, gs, rv_some, ret_i, ret_n, Option.bind_some, List.cons_append, List.nil_append, z0, z1, zi, zj, i10, i01, true_or, or_true, eq_self, not_false_eq_true, not_true_eq_false, if_true, if_false, ite_not, Decidable.not_not, and_true, true_and, or_false, false_or, Nat.reduceLeDiff, Nat.reduceMod, Nat.reduceEqDiff, ld0 hD, e1, re3 hcl1 hFI hr, re8 hcl1 hFI hr, cn0 hcl1 hFI, hd0, nI_add, d90, f32, f6, g1, g2, g4, g5, hbig, z1]
        · by_cases hlate : 9999 < d + k
          · refine ⟨I1, n, m, H, ?_, hcl1⟩
            simp only [eL_comesSo_0, eL_comesSo_1, eL_comesSo_2, eL_comesSo_5, eL_comesSo_6, eL_comesSo_7, eL_comesSo_8, eL_comesSo_9, eL_comesSo_12, eL_comesSo_13, eL_comesSo_16, eL_comesSo_17, eL_comesSo_20, eL_comesSo_23, eL_comesSo_24, eL_comesSo_27, eL_comesSo_28, eL_comesSo_29, eL_comesSo_30, eL_comesSo_31, eL_comesSo_33, eL_comesSo_36, eL_comesSo_37, eL_comesSo_40, eL_comesSo_41, eL_comesSo_44, eL_comesSo_47, eL_comesSo_48, eL_comesSo_51, eL_comesSo_52, eL_comesSo_53, eL_comesSo_54, eL_comesSo_57, eL_comesSo_60, eL_comesSo_61, eL_comesSo_64, eL_comesSo_67, eL_comesSo_68, eL_comesSo_69, eL_comesSo_72, eL_comesSo_73, eL_comesSo_74, eL_comesSo_77, eL_comesSo_80, eL_comesSo_81, eL_comesSo_84, eL_comesSo_87, eL_comesSo_88, eL_comesSo_91, eL_comesSo_92, eL_comesSo_93, eL_comesSo_96, eL_comesSo_97, eL_comesSo_98, eL_comesSo_100, eL_comesSo_101, eL_comesSo_104, eL_comesSo_105, eL_comesSo_108, eL_comesSo_109, eL_comesSo_110, eL_comesSo_111, eL_comesSo_114, eL_comesSo_115, eL_comesSo_116, eL_comesSo_119, eL_comesSo_120, eL_comesSo_121, eL_comesSo_124, eL_comesSo_125, eL_comesSo_126, eL_comesSo_128, eL_comesSo_129, eL_comesSo_132, eL_comesSo_133, eL_comesSo_134, eL_comesSo_137, eL_comesSo_140, eL_comesSo_141, eL_comesSo_142, eL_comesSo_143, eL_comesSo_146, eL_comesSo_147, eL_comesSo_150, eL_comesSo_151, eL_comesSo_152, eL_comesSo_154, eL_comesSo_157, eL_comesSo_158, eL_comesSo_159, eL_comesSo_161, eL_comesSo_164, eL_comesSo_167, eL_comesSo_168, eL_comesSo_171, eL_comesSo_174, eL_comesSo_175, eL_comesSo_178, eL_comesSo_179, eL_comesSo_180, eL_comesSo_183, eL_comesSo_184, eL_comesSo_187, eL_comesSo_188, eL_comesSo_190, eL_comesSo_192, eL_comesSo_195, eL_comesSo_196, eL_comesSo_197, eL_comesSo_200, eL_comesSo_201, eL_comesSo_202, eL_comesSo_203, eL_comesSo_204, eL_comesSo_207, eL_comesSo_210, eL_comesSo_211, eL_comesSo_212, eL_comesSo_213, eL_comesSo_216, eL_comesSo_217, eL_comesSo_220, eL_comesSo_221, eL_comesSo_222, eL_comesSo_225, eL_comesSo_226, eL_comesSo_229, eL_comesSo_230, eL_comesSo_233, eL_comesSo_236, eL_comesSo_237, eL_comesSo_240, eL_comesSo_241, eL_comesSo_242, eL_comesSo_245, eL_comesSo_246, eL_comesSo_249, eL_comesSo_250, eL_comesSo_252, eL_comesSo_254, ret_l, one0, and_false, false_and, gk, gr, gi, gs, rv_some, ret_i, ret_n, Option.bind_some, List.cons_append, List.nil_append, z0, z1, zi, zj, i10, i01, true_or, or_true, eq_self, not_false_eq_true, not_true_eq_false, if_true, if_false, ite_not, Decidable.not_not, and_true, true_and, or_false, false_or, Nat.reduceLeDiff, Nat.reduceMod, Nat.reduceEqDiff, ld0 hD, e1, re3 hcl1 hFI hr, re8 hcl1 hFI hr, cn0 hcl1 hFI, hd0, nI_add, d90, f32, f6, g1, g2, g3, g4, g5, hbig, hlate, z1]
          · have hN4 : N < 400 := by omega
            have s1 := sum_ev (xl := xl) (xs := xs) hcl1 hFI hN4
            -- passed
            obtain ⟨I2, m2, e2, hcl2, hF2, -⟩ := pass_ok (xl := xl) (xs := xs) hcl1 hFI hN4 hd0 hd k1 (by omega) (by omega)
            rw [kd] at e2 hcl2 hF2
            obtain ⟨I3, m3, j3, e3, hcl3, -, -⟩ := undone (xl := xl) (xs := xs) hcl2 hcl1.n8 hFI
            have s3 := sum_ev (xl := xl) (xs := xs) hcl3 hFI hN4
            have hQ := hq (i + 1) (by omega)
            have ht : 0 < (lp (qG nA nR) 0 (i + 1) (s, 0)).2 := by
              obtain ⟨c, ec, hc⟩ := (hq i (by omega)).2.2.2.2.2.1
              obtain ⟨b1, i1⟩ := q_inv hFI.1 hFI.2 i (by omega) (by omega)
              obtain ⟨c2, ec2, hc2⟩ := (beg_all i1 b1 (by omega) (by omega) (hq i (by omega)).2.2.2.1).2.2.2.2.2.1
              have e := q_s nA nR s i
              rw [e]
              dsimp only
              rw [ec2] at q0 ⊢
              have c0 : 1 ≤ c2 := by
                rcases Nat.eq_zero_or_pos c2 with z | z
                · rw [z] at q0; exact absurd q0 (by decide)
                · exact z
              rw [ec, nI_add]
              exact nI_lt (a := 0) (by omega) (by omega)
            have r3 : rp (sG (lp (qG nA nR) 0 (i + 1) (s, 0)).1 0 (nI (d + k))) r 3 = 3 := by rw [d_rp]; exact q3
            have r8 : rp (sG (lp (qG nA nR) 0 (i + 1) (s, 0)).1 0 (nI (d + k))) r 8 = prV (sG (lp (qG nA nR) 0 (i + 1) (s, 0)).1 0 (nI (d + k))) r := by
              unfold prV
              rw [r3, if_pos (by decide), d_rp, d_price, hQ.1.pr hFI.1.1 hr]
              rcases (hQ.1.2.2.2 r hr).2 with ⟨a, -⟩ | ⟨-, -, ⟨a, -⟩ | ⟨-, a⟩⟩
              · rw [a, h2] at q3; exact absurd q3 (by decide)
              · rw [a] at q3; exact absurd q3 (by decide)
              · exact a
            have f1 := eq_true ht
            have f2 : (nI j3 < 0) = False := n_neg (by have := hcl3.n8; omega)
            by_cases hk1 : k = 1
            · refine ⟨I3, j3, m3, _, ?_, hcl3⟩
              have g6 : (1 < nI k) = False := eq_false (by rw [hk1]; decide)
              simp only [eL_comesSo_0, eL_comesSo_1, eL_comesSo_2, eL_comesSo_5, eL_comesSo_6, eL_comesSo_7, eL_comesSo_8, eL_comesSo_9, eL_comesSo_12, eL_comesSo_13, eL_comesSo_16, eL_comesSo_17, eL_comesSo_20, eL_comesSo_23, eL_comesSo_24, eL_comesSo_27, eL_comesSo_28, eL_comesSo_29, eL_comesSo_30, eL_comesSo_31, eL_comesSo_33, eL_comesSo_36, eL_comesSo_37, eL_comesSo_40, eL_comesSo_41, eL_comesSo_44, eL_comesSo_47, eL_comesSo_48, eL_comesSo_51, eL_comesSo_52, eL_comesSo_53, eL_comesSo_54, eL_comesSo_57, eL_comesSo_60, eL_comesSo_61, eL_comesSo_64, eL_comesSo_67, eL_comesSo_68, eL_comesSo_69, eL_comesSo_72, eL_comesSo_73, eL_comesSo_74, eL_comesSo_77, eL_comesSo_80, eL_comesSo_81, eL_comesSo_84, eL_comesSo_87, eL_comesSo_88, eL_comesSo_91, eL_comesSo_92, eL_comesSo_93, eL_comesSo_96, eL_comesSo_97, eL_comesSo_98, eL_comesSo_100, eL_comesSo_101, eL_comesSo_104, eL_comesSo_105, eL_comesSo_108, eL_comesSo_109, eL_comesSo_110, eL_comesSo_111, eL_comesSo_114, eL_comesSo_115, eL_comesSo_116, eL_comesSo_119, eL_comesSo_120, eL_comesSo_121, eL_comesSo_124, eL_comesSo_125, eL_comesSo_126, eL_comesSo_128, eL_comesSo_129, eL_comesSo_132, eL_comesSo_133, eL_comesSo_134, eL_comesSo_137, eL_comesSo_140, eL_comesSo_141, eL_comesSo_142, eL_comesSo_143, eL_comesSo_146, eL_comesSo_147, eL_comesSo_150, eL_comesSo_151, eL_comesSo_152, eL_comesSo_154, eL_comesSo_157, eL_comesSo_158, eL_comesSo_159, eL_comesSo_161, eL_comesSo_164, eL_comesSo_167, eL_comesSo_168, eL_comesSo_171, eL_comesSo_174, eL_comesSo_175, eL_comesSo_178, eL_comesSo_179, eL_comesSo_180, eL_comesSo_183, eL_comesSo_184, eL_comesSo_187, eL_comesSo_188, eL_comesSo_190, eL_comesSo_192, eL_comesSo_195, eL_comesSo_196, eL_comesSo_197, eL_comesSo_200, eL_comesSo_201, eL_comesSo_202, eL_comesSo_203, eL_comesSo_204, eL_comesSo_207, eL_comesSo_210, eL_comesSo_211, eL_comesSo_212, eL_comesSo_213, eL_comesSo_216, eL_comesSo_217, eL_comesSo_220, eL_comesSo_221, eL_comesSo_222, eL_comesSo_225, eL_comesSo_226, eL_comesSo_229, eL_comesSo_230, eL_comesSo_233, eL_comesSo_236, eL_comesSo_237, eL_comesSo_240, eL_comesSo_241, eL_comesSo_242, eL_comesSo_245, eL_comesSo_246, eL_comesSo_249, eL_comesSo_250, eL_comesSo_252, eL_comesSo_254, ret_l, one0, and_false, false_and, gk, gr, gi, gs, rv_some, ret_i, ret_n, Option.bind_some, List.cons_append, List.nil_append, z0, z1, zi, zj, i10, i01, true_or, or_true, eq_self, not_false_eq_true, not_true_eq_false, if_true, if_false, ite_not, Decidable.not_not, and_true, true_and, or_false, false_or, Nat.reduceLeDiff, Nat.reduceMod, Nat.reduceEqDiff, ld0 hD, e1, re3 hcl1 hFI hr, re8 hcl1 hFI hr, cn0 hcl1 hFI, hd0, nI_add, d90, f32, f6, g1, g2, g3, g4, g5, g6, hbig, hlate, s1, e2, f1, re3 hcl2 hF2 hr, re7 hcl2 hF2 hr, re9 hcl2 hF2 hr, r3, r8, e3, f2, s3, lgc, z1]
            · have kd2 : (d + (k - 1)) / 90 - d / 90 = i := by omega
              obtain ⟨I4, m4, e4, hcl4, hF4, -⟩ := pass_ok (xl := xl) (xs := xs) hcl3 hFI hN4 hd0 hd (show 1 ≤ k - 1 by omega) (by omega) (by omega)
              rw [kd2] at e4 hcl4 hF4
              obtain ⟨c, ec, hc⟩ := (hq i (by omega)).2.2.2.2.2.1
              rw [ec] at e4
              have r4 : rp (sG (lp (qG nA nR) 0 i (s, 0)).1 0 (nI (d + (k - 1)))) r 3 = 2 := by rw [d_rp]; exact q2
              obtain ⟨I5, e5, hcl5, -⟩ := pi_ev (xl := xl) (xs := xs) hcl4 hF4 hr r4 (show gp (sG (lp (qG nA nR) 0 i (s, 0)).1 0 (nI (d + (k - 1)))) 0 = nI (d + (k - 1)) by rw [gp_sG, if_pos rfl]) (by omega)
              have hv : pIn nA nR r 12 (90 - (d + (k - 1)) % 90) (sG (lp (qG nA nR) 0 i (s, 0)).1 0 (nI (d + (k - 1)))) = 1 := by
                rw [pIn_s, d_beg, if_pos]
                · rw [show 90 - (d + (k - 1)) % 90 = 1 by omega]; rfl
                · rw [d_rp]
                  have e := q_s nA nR s i
                  rw [e] at q3
                  exact q3
              rw [hv] at e5
              obtain ⟨I6, m6, j6, e6, hcl6, -, -⟩ := undone (xl := xl) (xs := xs) hcl5 hcl3.n8 hFI
              have s6 := sum_ev (xl := xl) (xs := xs) hcl6 hFI hN4
              have f4 : (nI j6 < 0) = False := n_neg (by have := hcl6.n8; omega)
              have f5 : (nI c < 0) = False := n_neg (by omega)
              have g6 : (1 < nI k) = True := n_lt (x := 1) (by omega) (by omega)
              have g7 : nI k - 1 = nI (k - 1) := pk_sub (b := 1) (by omega)
              have f7 := eq_true r4
              refine ⟨I6, j6, m6, _, ?_, hcl6⟩
              simp only [eL_comesSo_0, eL_comesSo_1, eL_comesSo_2, eL_comesSo_5, eL_comesSo_6, eL_comesSo_7, eL_comesSo_8, eL_comesSo_9, eL_comesSo_12, eL_comesSo_13, eL_comesSo_16, eL_comesSo_17, eL_comesSo_20, eL_comesSo_23, eL_comesSo_24, eL_comesSo_27, eL_comesSo_28, eL_comesSo_29, eL_comesSo_30, eL_comesSo_31, eL_comesSo_33, eL_comesSo_36, eL_comesSo_37, eL_comesSo_40, eL_comesSo_41, eL_comesSo_44, eL_comesSo_47, eL_comesSo_48, eL_comesSo_51, eL_comesSo_52, eL_comesSo_53, eL_comesSo_54, eL_comesSo_57, eL_comesSo_60, eL_comesSo_61, eL_comesSo_64, eL_comesSo_67, eL_comesSo_68, eL_comesSo_69, eL_comesSo_72, eL_comesSo_73, eL_comesSo_74, eL_comesSo_77, eL_comesSo_80, eL_comesSo_81, eL_comesSo_84, eL_comesSo_87, eL_comesSo_88, eL_comesSo_91, eL_comesSo_92, eL_comesSo_93, eL_comesSo_96, eL_comesSo_97, eL_comesSo_98, eL_comesSo_100, eL_comesSo_101, eL_comesSo_104, eL_comesSo_105, eL_comesSo_108, eL_comesSo_109, eL_comesSo_110, eL_comesSo_111, eL_comesSo_114, eL_comesSo_115, eL_comesSo_116, eL_comesSo_119, eL_comesSo_120, eL_comesSo_121, eL_comesSo_124, eL_comesSo_125, eL_comesSo_126, eL_comesSo_128, eL_comesSo_129, eL_comesSo_132, eL_comesSo_133, eL_comesSo_134, eL_comesSo_137, eL_comesSo_140, eL_comesSo_141, eL_comesSo_142, eL_comesSo_143, eL_comesSo_146, eL_comesSo_147, eL_comesSo_150, eL_comesSo_151, eL_comesSo_152, eL_comesSo_154, eL_comesSo_157, eL_comesSo_158, eL_comesSo_159, eL_comesSo_161, eL_comesSo_164, eL_comesSo_167, eL_comesSo_168, eL_comesSo_171, eL_comesSo_174, eL_comesSo_175, eL_comesSo_178, eL_comesSo_179, eL_comesSo_180, eL_comesSo_183, eL_comesSo_184, eL_comesSo_187, eL_comesSo_188, eL_comesSo_190, eL_comesSo_192, eL_comesSo_195, eL_comesSo_196, eL_comesSo_197, eL_comesSo_200, eL_comesSo_201, eL_comesSo_202, eL_comesSo_203, eL_comesSo_204, eL_comesSo_207, eL_comesSo_210, eL_comesSo_211, eL_comesSo_212, eL_comesSo_213, eL_comesSo_216, eL_comesSo_217, eL_comesSo_220, eL_comesSo_221, eL_comesSo_222, eL_comesSo_225, eL_comesSo_226, eL_comesSo_229, eL_comesSo_230, eL_comesSo_233, eL_comesSo_236, eL_comesSo_237, eL_comesSo_240, eL_comesSo_241, eL_comesSo_242, eL_comesSo_245, eL_comesSo_246, eL_comesSo_249, eL_comesSo_250, eL_comesSo_252, eL_comesSo_254, ret_l, one0, and_false, false_and, gk, gr, gi, gs, rv_some, ret_i, ret_n, Option.bind_some, List.cons_append, List.nil_append, z0, z1, zi, zj, i10, i01, true_or, or_true, eq_self, not_false_eq_true, not_true_eq_false, if_true, if_false, ite_not, Decidable.not_not, and_true, true_and, or_false, false_or, Nat.reduceLeDiff, Nat.reduceMod, Nat.reduceEqDiff, ld0 hD, e1, re3 hcl1 hFI hr, re8 hcl1 hFI hr, cn0 hcl1 hFI, hd0, nI_add, d90, f32, f6, g1, g2, g3, g4, g5, g6, g7, hbig, hlate, s1, e2, f1, re3 hcl2 hF2 hr, re7 hcl2 hF2 hr, re9 hcl2 hF2 hr, r3, r8, e3, f2, s3, lgc, z1, e4, f5, re3 hcl4 hF4 hr, f7, e5, e6, f4, s6]
  · have f3 := eq_false h2
    have e1 := pi_no (xl := xl) (xs := xs) hcl hFI hr h2
    refine ⟨I, n, m, H, ?_, hcl⟩
    simp only [eL_comesSo_0, eL_comesSo_1, eL_comesSo_2, eL_comesSo_5, eL_comesSo_6, eL_comesSo_7, eL_comesSo_8, eL_comesSo_9, eL_comesSo_12, eL_comesSo_13, eL_comesSo_16, eL_comesSo_17, eL_comesSo_20, eL_comesSo_23, eL_comesSo_24, eL_comesSo_27, eL_comesSo_28, eL_comesSo_29, eL_comesSo_30, eL_comesSo_31, eL_comesSo_33, eL_comesSo_36, eL_comesSo_37, eL_comesSo_40, eL_comesSo_41, eL_comesSo_44, eL_comesSo_47, eL_comesSo_48, eL_comesSo_51, eL_comesSo_52, eL_comesSo_53, eL_comesSo_54, eL_comesSo_57, eL_comesSo_60, eL_comesSo_61, eL_comesSo_64, eL_comesSo_67, eL_comesSo_68, eL_comesSo_69, eL_comesSo_72, eL_comesSo_73, eL_comesSo_74, eL_comesSo_77, eL_comesSo_80, eL_comesSo_81, eL_comesSo_84, eL_comesSo_87, eL_comesSo_88, eL_comesSo_91, eL_comesSo_92, eL_comesSo_93, eL_comesSo_96, eL_comesSo_97, eL_comesSo_98, eL_comesSo_100, eL_comesSo_101, eL_comesSo_104, eL_comesSo_105, eL_comesSo_108, eL_comesSo_109, eL_comesSo_110, eL_comesSo_111, eL_comesSo_114, eL_comesSo_115, eL_comesSo_116, eL_comesSo_119, eL_comesSo_120, eL_comesSo_121, eL_comesSo_124, eL_comesSo_125, eL_comesSo_126, eL_comesSo_128, eL_comesSo_129, eL_comesSo_132, eL_comesSo_133, eL_comesSo_134, eL_comesSo_137, eL_comesSo_140, eL_comesSo_141, eL_comesSo_142, eL_comesSo_143, eL_comesSo_146, eL_comesSo_147, eL_comesSo_150, eL_comesSo_151, eL_comesSo_152, eL_comesSo_154, eL_comesSo_157, eL_comesSo_158, eL_comesSo_159, eL_comesSo_161, eL_comesSo_164, eL_comesSo_167, eL_comesSo_168, eL_comesSo_171, eL_comesSo_174, eL_comesSo_175, eL_comesSo_178, eL_comesSo_179, eL_comesSo_180, eL_comesSo_183, eL_comesSo_184, eL_comesSo_187, eL_comesSo_188, eL_comesSo_190, eL_comesSo_192, eL_comesSo_195, eL_comesSo_196, eL_comesSo_197, eL_comesSo_200, eL_comesSo_201, eL_comesSo_202, eL_comesSo_203, eL_comesSo_204, eL_comesSo_207, eL_comesSo_210, eL_comesSo_211, eL_comesSo_212, eL_comesSo_213, eL_comesSo_216, eL_comesSo_217, eL_comesSo_220, eL_comesSo_221, eL_comesSo_222, eL_comesSo_225, eL_comesSo_226, eL_comesSo_229, eL_comesSo_230, eL_comesSo_233, eL_comesSo_236, eL_comesSo_237, eL_comesSo_240, eL_comesSo_241, eL_comesSo_242, eL_comesSo_245, eL_comesSo_246, eL_comesSo_249, eL_comesSo_250, eL_comesSo_252, eL_comesSo_254, ret_l, one0, and_false, false_and, gk, gr, gi, gs, rv_some, ret_i, ret_n, Option.bind_some, List.cons_append, List.nil_append, z0, z1, zi, zj, i10, i01, true_or, or_true, eq_self, not_false_eq_true, not_true_eq_false, if_true, if_false, ite_not, Decidable.not_not, and_true, true_and, or_false, false_or, Nat.reduceLeDiff, Nat.reduceMod, Nat.reduceEqDiff, ld0 hD, e1, re3 hcl hFI hr, f3, z1]
end COMES
