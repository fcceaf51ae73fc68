/-! looking: nothing changes -/
def cntS (s : St) (nR : Nat) (k : Int32) : Int32 := sum (fun r => if rp s r 3 = k then 1 else 0) nR
def poolS (s : St) (nA : Nat) : Int32 := sum (fun a => ap s a 2) nA
def apS (s : St) (nR : Nat) : Int32 := sum (fun r => if rp s r 6 = 1 then 1 else 0) nR
def forS (s : St) (nR a : Nat) : Int32 := sum (fun r => if rp s r 1 = nI a then 1 else 0) nR
def dueS (s : St) (nR a : Nat) : Int32 := sum (fun r => if rp s r 1 = nI a ∧ isDue s r then price s r else 0) nR
def byS (s : St) (nR h : Nat) : Int32 := sum (fun r => if rp s r 0 = nI h then 1 else 0) nR
def undS (s : St) (nR r : Nat) : Int32 := sum (fun q => if under s r q then 1 else 0) nR
def grad (s : St) (r : Nat) : Prop := rp s r 3 = 1 ∨ rp s r 3 = 2 ∨ rp s r 3 = 3
def svS (s : St) (r : Nat) : Int32 := if rp s r 3 = 1 ∨ rp s r 3 = 2 ∨ rp s r 3 = 3 then rp s r 4 else -10009
def prV (s : St) (r : Nat) : Int32 := if rp s r 3 = 1 ∨ rp s r 3 = 2 ∨ rp s r 3 = 3 then price s r else -10009
def lackS (s : St) (nA nR : Nat) : Int32 := nI (lacks s nA nR - tn (gp s 1))
section LOOK
variable {xl : Nat} {xs : Nat → Int32} {F : pm_F} {I : Nat → Nat → Int32} {N : Nat} {s s' : St} {nA nH nR nA' nH' nR' n m : Nat} {H : Nat → St} {v : Int32}
variable {I1 : Nat → Nat → Int32}
def cV (s : St) (nA nH nR n : Nat) (k : Nat) : Int32 := match k with
  | 0 => gp s 0
  | 1 => gp s 0 / 90
  | 2 => gp s 1
  | 3 => nI nA
  | 4 => nI nH
  | 5 => nI nR
  | 6 => cntS s nR 0
  | 7 => cntS s nR 1
  | 8 => cntS s nR 2
  | 9 => cntS s nR 3
  | 10 => cntS s nR 4
  | 11 => cntS s nR 5
  | 12 => poolS s nA
  | 13 => gp s 7
  | 14 => gp s 8
  | 15 => apS s nR
  | 16 => nI n
  | _ => -10001
theorem cn0 (hcl : Cl F I s nA nH nR n m H) (hFI : FI N s nA nH nR) : pm_ev tb xl xs mX4_count 0 [some (.ref 0), some (.int 0)] [] (pm_G F I) = some (some (.int (gp s 0)), pm_G F I) := by
  have hD := hcl.1
  have hR := hcl.2.1
  have hF4 := hcl.2.2.1
  have hC := hcl.2.2.2
  have hB := ldB hD
  have h6 := hFI.1.1.1.2
  have h8 := hFI.1.1.2.1.2
  have h40 := hFI.1.1.2.2.1.2
  have hnA := hFI.1.1.1.1
  have hnH := hFI.1.1.2.1.1
  have hnR := hFI.1.1.2.2.1.1
  have qA : I 1 3 = nI nA := (rbg3 hR).trans hnA
  have qH : I 1 4 = nI nH := (rbg4 hR).trans hnH
  have qR : I 1 5 = nI nR := (rbg5 hR).trans hnR
  have hrb := hFI.rb
  have hT := hFI.1
  have c5 : I 0 5 = nI n := hC.2.1
  simp only [eX4_count_0, eX4_count_1_c0, eX4_count_1_c1, eX4_count_1_c2, eX4_count_1_c3, eX4_count_1_c4, eX4_count_1_c5, eX4_count_1_c6, eX4_count_1_c7, eX4_count_1_c8, eX4_count_1_c9, eX4_count_1_c10, eX4_count_1_c11, eX4_count_1_c12, eX4_count_1_c13, eX4_count_1_c14, eX4_count_1_c15, eX4_count_1_c16, eX4_count_1_d, eX4_count_84, eX4_count_85, eX4_count_88, eX4_count_91, eX4_count_92, eX4_count_93, eX4_count_96, eX4_count_99, eX4_count_101, eX4_count_102, eX4_count_103, eX4_count_104, eX4_count_107, eX4_count_110, eX4_count_111, eX4_count_112, eX4_count_115, eX4_count_118, eX4_count_119, eX4_count_120, eX4_count_123, eX4_count_126, eX4_count_127, eX4_count_128, eX4_count_131, eX4_count_134, eX4_count_135, eX4_count_136, eX4_count_139, eX4_count_140, eX4_count_143, eX4_count_144, eX4_count_145, eX4_count_148, eX4_count_149, eX4_count_152, eX4_count_153, eX4_count_154, eX4_count_157, eX4_count_158, eX4_count_161, eX4_count_162, eX4_count_163, eX4_count_166, eX4_count_167, eX4_count_170, eX4_count_171, eX4_count_172, eX4_count_175, eX4_count_176, eX4_count_179, eX4_count_180, eX4_count_181, eX4_count_184, eX4_count_185, eX4_count_188, eX4_count_189, eX4_count_190, eX4_count_193, eX4_count_196, eX4_count_197, eX4_count_198, eX4_count_201, eX4_count_204, eX4_count_205, eX4_count_206, eX4_count_209, eX4_count_212, eX4_count_213, eX4_count_214, eX4_count_217, eX4_count_220, eX4_count_221, eX4_count_222, eX4_count_225, eX4_count_226, eX4_count_229, one0, and_false, false_and, gk, gr, gi, gs, rv_some, ret_i, ret_n, Option.bind_some, List.cons_append, List.nil_append, z0, z1, zi, zj, i10, i01, true_or, or_true, eq_self, not_false_eq_true, not_true_eq_false, if_true, if_false, ite_not, Decidable.not_not, and_true, true_and, or_false, false_or, Nat.reduceLeDiff, Nat.reduceMod, Nat.reduceEqDiff, ld0 hD, ld1 hD, ld2 hD, ld3 hD, ld4 hD, ld5 hD, ld6 hD, lb0 (ldB hD), lb1 (ldB hD), lb2 (ldB hD), lb3 (ldB hD), lb4 (ldB hD), lb5 (ldB hD), lb6 (ldB hD), rbg3 hR, rbg4 hR, rbg5 hR, rbg6 hR, rbg7 hR, rbg8 hR, rbg9 hR, rbg10 hR, rbg11 hR, d90, X1_reportsInState_ev hB hR hT, X1_moneyInPools_ev hB hR hT, X1_openAppeals_ev hB hR hT, c5, qA, qH, qR]
theorem cn1 (hcl : Cl F I s nA nH nR n m H) (hFI : FI N s nA nH nR) : pm_ev tb xl xs mX4_count 0 [some (.ref 0), some (.int 1)] [] (pm_G F I) = some (some (.int (gp s 0 / 90)), pm_G F I) := by
  have hD := hcl.1
  have hR := hcl.2.1
  have hF4 := hcl.2.2.1
  have hC := hcl.2.2.2
  have hB := ldB hD
  have h6 := hFI.1.1.1.2
  have h8 := hFI.1.1.2.1.2
  have h40 := hFI.1.1.2.2.1.2
  have hnA := hFI.1.1.1.1
  have hnH := hFI.1.1.2.1.1
  have hnR := hFI.1.1.2.2.1.1
  have qA : I 1 3 = nI nA := (rbg3 hR).trans hnA
  have qH : I 1 4 = nI nH := (rbg4 hR).trans hnH
  have qR : I 1 5 = nI nR := (rbg5 hR).trans hnR
  have hrb := hFI.rb
  have hT := hFI.1
  have c5 : I 0 5 = nI n := hC.2.1
  simp only [eX4_count_0, eX4_count_1_c0, eX4_count_1_c1, eX4_count_1_c2, eX4_count_1_c3, eX4_count_1_c4, eX4_count_1_c5, eX4_count_1_c6, eX4_count_1_c7, eX4_count_1_c8, eX4_count_1_c9, eX4_count_1_c10, eX4_count_1_c11, eX4_count_1_c12, eX4_count_1_c13, eX4_count_1_c14, eX4_count_1_c15, eX4_count_1_c16, eX4_count_1_d, eX4_count_84, eX4_count_85, eX4_count_88, eX4_count_91, eX4_count_92, eX4_count_93, eX4_count_96, eX4_count_99, eX4_count_101, eX4_count_102, eX4_count_103, eX4_count_104, eX4_count_107, eX4_count_110, eX4_count_111, eX4_count_112, eX4_count_115, eX4_count_118, eX4_count_119, eX4_count_120, eX4_count_123, eX4_count_126, eX4_count_127, eX4_count_128, eX4_count_131, eX4_count_134, eX4_count_135, eX4_count_136, eX4_count_139, eX4_count_140, eX4_count_143, eX4_count_144, eX4_count_145, eX4_count_148, eX4_count_149, eX4_count_152, eX4_count_153, eX4_count_154, eX4_count_157, eX4_count_158, eX4_count_161, eX4_count_162, eX4_count_163, eX4_count_166, eX4_count_167, eX4_count_170, eX4_count_171, eX4_count_172, eX4_count_175, eX4_count_176, eX4_count_179, eX4_count_180, eX4_count_181, eX4_count_184, eX4_count_185, eX4_count_188, eX4_count_189, eX4_count_190, eX4_count_193, eX4_count_196, eX4_count_197, eX4_count_198, eX4_count_201, eX4_count_204, eX4_count_205, eX4_count_206, eX4_count_209, eX4_count_212, eX4_count_213, eX4_count_214, eX4_count_217, eX4_count_220, eX4_count_221, eX4_count_222, eX4_count_225, eX4_count_226, eX4_count_229, one0, and_false, false_and, gk, gr, gi, gs, rv_some, ret_i, ret_n, Option.bind_some, List.cons_append, List.nil_append, z0, z1, zi, zj, i10, i01, true_or, or_true, eq_self, not_false_eq_true, not_true_eq_false, if_true, if_false, ite_not, Decidable.not_not, and_true, true_and, or_false, false_or, Nat.reduceLeDiff, Nat.reduceMod, Nat.reduceEqDiff, ld0 hD, ld1 hD, ld2 hD, ld3 hD, ld4 hD, ld5 hD, ld6 hD, lb0 (ldB hD), lb1 (ldB hD), lb2 (ldB hD), lb3 (ldB hD), lb4 (ldB hD), lb5 (ldB hD), lb6 (ldB hD), rbg3 hR, rbg4 hR, rbg5 hR, rbg6 hR, rbg7 hR, rbg8 hR, rbg9 hR, rbg10 hR, rbg11 hR, d90, X1_reportsInState_ev hB hR hT, X1_moneyInPools_ev hB hR hT, X1_openAppeals_ev hB hR hT, c5, qA, qH, qR]
theorem cn2 (hcl : Cl F I s nA nH nR n m H) (hFI : FI N s nA nH nR) : pm_ev tb xl xs mX4_count 0 [some (.ref 0), some (.int 2)] [] (pm_G F I) = some (some (.int (gp s 1)), pm_G F I) := by
  have hD := hcl.1
  have hR := hcl.2.1
  have hF4 := hcl.2.2.1
  have hC := hcl.2.2.2
  have hB := ldB hD
  have h6 := hFI.1.1.1.2
  have h8 := hFI.1.1.2.1.2
  have h40 := hFI.1.1.2.2.1.2
  have hnA := hFI.1.1.1.1
  have hnH := hFI.1.1.2.1.1
  have hnR := hFI.1.1.2.2.1.1
  have qA : I 1 3 = nI nA := (rbg3 hR).trans hnA
  have qH : I 1 4 = nI nH := (rbg4 hR).trans hnH
  have qR : I 1 5 = nI nR := (rbg5 hR).trans hnR
  have hrb := hFI.rb
  have hT := hFI.1
  have c5 : I 0 5 = nI n := hC.2.1
  simp only [eX4_count_0, eX4_count_1_c0, eX4_count_1_c1, eX4_count_1_c2, eX4_count_1_c3, eX4_count_1_c4, eX4_count_1_c5, eX4_count_1_c6, eX4_count_1_c7, eX4_count_1_c8, eX4_count_1_c9, eX4_count_1_c10, eX4_count_1_c11, eX4_count_1_c12, eX4_count_1_c13, eX4_count_1_c14, eX4_count_1_c15, eX4_count_1_c16, eX4_count_1_d, eX4_count_84, eX4_count_85, eX4_count_88, eX4_count_91, eX4_count_92, eX4_count_93, eX4_count_96, eX4_count_99, eX4_count_101, eX4_count_102, eX4_count_103, eX4_count_104, eX4_count_107, eX4_count_110, eX4_count_111, eX4_count_112, eX4_count_115, eX4_count_118, eX4_count_119, eX4_count_120, eX4_count_123, eX4_count_126, eX4_count_127, eX4_count_128, eX4_count_131, eX4_count_134, eX4_count_135, eX4_count_136, eX4_count_139, eX4_count_140, eX4_count_143, eX4_count_144, eX4_count_145, eX4_count_148, eX4_count_149, eX4_count_152, eX4_count_153, eX4_count_154, eX4_count_157, eX4_count_158, eX4_count_161, eX4_count_162, eX4_count_163, eX4_count_166, eX4_count_167, eX4_count_170, eX4_count_171, eX4_count_172, eX4_count_175, eX4_count_176, eX4_count_179, eX4_count_180, eX4_count_181, eX4_count_184, eX4_count_185, eX4_count_188, eX4_count_189, eX4_count_190, eX4_count_193, eX4_count_196, eX4_count_197, eX4_count_198, eX4_count_201, eX4_count_204, eX4_count_205, eX4_count_206, eX4_count_209, eX4_count_212, eX4_count_213, eX4_count_214, eX4_count_217, eX4_count_220, eX4_count_221, eX4_count_222, eX4_count_225, eX4_count_226, eX4_count_229, one0, and_false, false_and, gk, gr, gi, gs, rv_some, ret_i, ret_n, Option.bind_some, List.cons_append, List.nil_append, z0, z1, zi, zj, i10, i01, true_or, or_true, eq_self, not_false_eq_true, not_true_eq_false, if_true, if_false, ite_not, Decidable.not_not, and_true, true_and, or_false, false_or, Nat.reduceLeDiff, Nat.reduceMod, Nat.reduceEqDiff, ld0 hD, ld1 hD, ld2 hD, ld3 hD, ld4 hD, ld5 hD, ld6 hD, lb0 (ldB hD), lb1 (ldB hD), lb2 (ldB hD), lb3 (ldB hD), lb4 (ldB hD), lb5 (ldB hD), lb6 (ldB hD), rbg3 hR, rbg4 hR, rbg5 hR, rbg6 hR, rbg7 hR, rbg8 hR, rbg9 hR, rbg10 hR, rbg11 hR, d90, X1_reportsInState_ev hB hR hT, X1_moneyInPools_ev hB hR hT, X1_openAppeals_ev hB hR hT, c5, qA, qH, qR]
theorem cn3 (hcl : Cl F I s nA nH nR n m H) (hFI : FI N s nA nH nR) : pm_ev tb xl xs mX4_count 0 [some (.ref 0), some (.int 3)] [] (pm_G F I) = some (some (.int (nI nA)), pm_G F I) := by
  have hD := hcl.1
  have hR := hcl.2.1
  have hF4 := hcl.2.2.1
  have hC := hcl.2.2.2
  have hB := ldB hD
  have h6 := hFI.1.1.1.2
  have h8 := hFI.1.1.2.1.2
  have h40 := hFI.1.1.2.2.1.2
  have hnA := hFI.1.1.1.1
  have hnH := hFI.1.1.2.1.1
  have hnR := hFI.1.1.2.2.1.1
  have qA : I 1 3 = nI nA := (rbg3 hR).trans hnA
  have qH : I 1 4 = nI nH := (rbg4 hR).trans hnH
  have qR : I 1 5 = nI nR := (rbg5 hR).trans hnR
  have hrb := hFI.rb
  have hT := hFI.1
  have c5 : I 0 5 = nI n := hC.2.1
  simp only [eX4_count_0, eX4_count_1_c0, eX4_count_1_c1, eX4_count_1_c2, eX4_count_1_c3, eX4_count_1_c4, eX4_count_1_c5, eX4_count_1_c6, eX4_count_1_c7, eX4_count_1_c8, eX4_count_1_c9, eX4_count_1_c10, eX4_count_1_c11, eX4_count_1_c12, eX4_count_1_c13, eX4_count_1_c14, eX4_count_1_c15, eX4_count_1_c16, eX4_count_1_d, eX4_count_84, eX4_count_85, eX4_count_88, eX4_count_91, eX4_count_92, eX4_count_93, eX4_count_96, eX4_count_99, eX4_count_101, eX4_count_102, eX4_count_103, eX4_count_104, eX4_count_107, eX4_count_110, eX4_count_111, eX4_count_112, eX4_count_115, eX4_count_118, eX4_count_119, eX4_count_120, eX4_count_123, eX4_count_126, eX4_count_127, eX4_count_128, eX4_count_131, eX4_count_134, eX4_count_135, eX4_count_136, eX4_count_139, eX4_count_140, eX4_count_143, eX4_count_144, eX4_count_145, eX4_count_148, eX4_count_149, eX4_count_152, eX4_count_153, eX4_count_154, eX4_count_157, eX4_count_158, eX4_count_161, eX4_count_162, eX4_count_163, eX4_count_166, eX4_count_167, eX4_count_170, eX4_count_171, eX4_count_172, eX4_count_175, eX4_count_176, eX4_count_179, eX4_count_180, eX4_count_181, eX4_count_184, eX4_count_185, eX4_count_188, eX4_count_189, eX4_count_190, eX4_count_193, eX4_count_196, eX4_count_197, eX4_count_198, eX4_count_201, eX4_count_204, eX4_count_205, eX4_count_206, eX4_count_209, eX4_count_212, eX4_count_213, eX4_count_214, eX4_count_217, eX4_count_220, eX4_count_221, eX4_count_222, eX4_count_225, eX4_count_226, eX4_count_229, one0, and_false, false_and, gk, gr, gi, gs, rv_some, ret_i, ret_n, Option.bind_some, List.cons_append, List.nil_append, z0, z1, zi, zj, i10, i01, true_or, or_true, eq_self, not_false_eq_true, not_true_eq_false, if_true, if_false, ite_not, Decidable.not_not, and_true, true_and, or_false, false_or, Nat.reduceLeDiff, Nat.reduceMod, Nat.reduceEqDiff, ld0 hD, ld1 hD, ld2 hD, ld3 hD, ld4 hD, ld5 hD, ld6 hD, lb0 (ldB hD), lb1 (ldB hD), lb2 (ldB hD), lb3 (ldB hD), lb4 (ldB hD), lb5 (ldB hD), lb6 (ldB hD), rbg3 hR, rbg4 hR, rbg5 hR, rbg6 hR, rbg7 hR, rbg8 hR, rbg9 hR, rbg10 hR, rbg11 hR, d90, X1_reportsInState_ev hB hR hT, X1_moneyInPools_ev hB hR hT, X1_openAppeals_ev hB hR hT, c5, qA, qH, qR, hnA]
theorem cn4 (hcl : Cl F I s nA nH nR n m H) (hFI : FI N s nA nH nR) : pm_ev tb xl xs mX4_count 0 [some (.ref 0), some (.int 4)] [] (pm_G F I) = some (some (.int (nI nH)), pm_G F I) := by
  have hD := hcl.1
  have hR := hcl.2.1
  have hF4 := hcl.2.2.1
  have hC := hcl.2.2.2
  have hB := ldB hD
  have h6 := hFI.1.1.1.2
  have h8 := hFI.1.1.2.1.2
  have h40 := hFI.1.1.2.2.1.2
  have hnA := hFI.1.1.1.1
  have hnH := hFI.1.1.2.1.1
  have hnR := hFI.1.1.2.2.1.1
  have qA : I 1 3 = nI nA := (rbg3 hR).trans hnA
  have qH : I 1 4 = nI nH := (rbg4 hR).trans hnH
  have qR : I 1 5 = nI nR := (rbg5 hR).trans hnR
  have hrb := hFI.rb
  have hT := hFI.1
  have c5 : I 0 5 = nI n := hC.2.1
  simp only [eX4_count_0, eX4_count_1_c0, eX4_count_1_c1, eX4_count_1_c2, eX4_count_1_c3, eX4_count_1_c4, eX4_count_1_c5, eX4_count_1_c6, eX4_count_1_c7, eX4_count_1_c8, eX4_count_1_c9, eX4_count_1_c10, eX4_count_1_c11, eX4_count_1_c12, eX4_count_1_c13, eX4_count_1_c14, eX4_count_1_c15, eX4_count_1_c16, eX4_count_1_d, eX4_count_84, eX4_count_85, eX4_count_88, eX4_count_91, eX4_count_92, eX4_count_93, eX4_count_96, eX4_count_99, eX4_count_101, eX4_count_102, eX4_count_103, eX4_count_104, eX4_count_107, eX4_count_110, eX4_count_111, eX4_count_112, eX4_count_115, eX4_count_118, eX4_count_119, eX4_count_120, eX4_count_123, eX4_count_126, eX4_count_127, eX4_count_128, eX4_count_131, eX4_count_134, eX4_count_135, eX4_count_136, eX4_count_139, eX4_count_140, eX4_count_143, eX4_count_144, eX4_count_145, eX4_count_148, eX4_count_149, eX4_count_152, eX4_count_153, eX4_count_154, eX4_count_157, eX4_count_158, eX4_count_161, eX4_count_162, eX4_count_163, eX4_count_166, eX4_count_167, eX4_count_170, eX4_count_171, eX4_count_172, eX4_count_175, eX4_count_176, eX4_count_179, eX4_count_180, eX4_count_181, eX4_count_184, eX4_count_185, eX4_count_188, eX4_count_189, eX4_count_190, eX4_count_193, eX4_count_196, eX4_count_197, eX4_count_198, eX4_count_201, eX4_count_204, eX4_count_205, eX4_count_206, eX4_count_209, eX4_count_212, eX4_count_213, eX4_count_214, eX4_count_217, eX4_count_220, eX4_count_221, eX4_count_222, eX4_count_225, eX4_count_226, eX4_count_229, one0, and_false, false_and, gk, gr, gi, gs, rv_some, ret_i, ret_n, Option.bind_some, List.cons_append, List.nil_append, z0, z1, zi, zj, i10, i01, true_or, or_true, eq_self, not_false_eq_true, not_true_eq_false, if_true, if_false, ite_not, Decidable.not_not, and_true, true_and, or_false, false_or, Nat.reduceLeDiff, Nat.reduceMod, Nat.reduceEqDiff, ld0 hD, ld1 hD, ld2 hD, ld3 hD, ld4 hD, ld5 hD, ld6 hD, lb0 (ldB hD), lb1 (ldB hD), lb2 (ldB hD), lb3 (ldB hD), lb4 (ldB hD), lb5 (ldB hD), lb6 (ldB hD), rbg3 hR, rbg4 hR, rbg5 hR, rbg6 hR, rbg7 hR, rbg8 hR, rbg9 hR, rbg10 hR, rbg11 hR, d90, X1_reportsInState_ev hB hR hT, X1_moneyInPools_ev hB hR hT, X1_openAppeals_ev hB hR hT, c5, qA, qH, qR, hnH]
theorem cn5 (hcl : Cl F I s nA nH nR n m H) (hFI : FI N s nA nH nR) : pm_ev tb xl xs mX4_count 0 [some (.ref 0), some (.int 5)] [] (pm_G F I) = some (some (.int (nI nR)), pm_G F I) := by
  have hD := hcl.1
  have hR := hcl.2.1
  have hF4 := hcl.2.2.1
  have hC := hcl.2.2.2
  have hB := ldB hD
  have h6 := hFI.1.1.1.2
  have h8 := hFI.1.1.2.1.2
  have h40 := hFI.1.1.2.2.1.2
  have hnA := hFI.1.1.1.1
  have hnH := hFI.1.1.2.1.1
  have hnR := hFI.1.1.2.2.1.1
  have qA : I 1 3 = nI nA := (rbg3 hR).trans hnA
  have qH : I 1 4 = nI nH := (rbg4 hR).trans hnH
  have qR : I 1 5 = nI nR := (rbg5 hR).trans hnR
  have hrb := hFI.rb
  have hT := hFI.1
  have c5 : I 0 5 = nI n := hC.2.1
  simp only [eX4_count_0, eX4_count_1_c0, eX4_count_1_c1, eX4_count_1_c2, eX4_count_1_c3, eX4_count_1_c4, eX4_count_1_c5, eX4_count_1_c6, eX4_count_1_c7, eX4_count_1_c8, eX4_count_1_c9, eX4_count_1_c10, eX4_count_1_c11, eX4_count_1_c12, eX4_count_1_c13, eX4_count_1_c14, eX4_count_1_c15, eX4_count_1_c16, eX4_count_1_d, eX4_count_84, eX4_count_85, eX4_count_88, eX4_count_91, eX4_count_92, eX4_count_93, eX4_count_96, eX4_count_99, eX4_count_101, eX4_count_102, eX4_count_103, eX4_count_104, eX4_count_107, eX4_count_110, eX4_count_111, eX4_count_112, eX4_count_115, eX4_count_118, eX4_count_119, eX4_count_120, eX4_count_123, eX4_count_126, eX4_count_127, eX4_count_128, eX4_count_131, eX4_count_134, eX4_count_135, eX4_count_136, eX4_count_139, eX4_count_140, eX4_count_143, eX4_count_144, eX4_count_145, eX4_count_148, eX4_count_149, eX4_count_152, eX4_count_153, eX4_count_154, eX4_count_157, eX4_count_158, eX4_count_161, eX4_count_162, eX4_count_163, eX4_count_166, eX4_count_167, eX4_count_170, eX4_count_171, eX4_count_172, eX4_count_175, eX4_count_176, eX4_count_179, eX4_count_180, eX4_count_181, eX4_count_184, eX4_count_185, eX4_count_188, eX4_count_189, eX4_count_190, eX4_count_193, eX4_count_196, eX4_count_197, eX4_count_198, eX4_count_201, eX4_count_204, eX4_count_205, eX4_count_206, eX4_count_209, eX4_count_212, eX4_count_213, eX4_count_214, eX4_count_217, eX4_count_220, eX4_count_221, eX4_count_222, eX4_count_225, eX4_count_226, eX4_count_229, one0, and_false, false_and, gk, gr, gi, gs, rv_some, ret_i, ret_n, Option.bind_some, List.cons_append, List.nil_append, z0, z1, zi, zj, i10, i01, true_or, or_true, eq_self, not_false_eq_true, not_true_eq_false, if_true, if_false, ite_not, Decidable.not_not, and_true, true_and, or_false, false_or, Nat.reduceLeDiff, Nat.reduceMod, Nat.reduceEqDiff, ld0 hD, ld1 hD, ld2 hD, ld3 hD, ld4 hD, ld5 hD, ld6 hD, lb0 (ldB hD), lb1 (ldB hD), lb2 (ldB hD), lb3 (ldB hD), lb4 (ldB hD), lb5 (ldB hD), lb6 (ldB hD), rbg3 hR, rbg4 hR, rbg5 hR, rbg6 hR, rbg7 hR, rbg8 hR, rbg9 hR, rbg10 hR, rbg11 hR, d90, X1_reportsInState_ev hB hR hT, X1_moneyInPools_ev hB hR hT, X1_openAppeals_ev hB hR hT, c5, qA, qH, qR, hnR]
theorem cn6 (hcl : Cl F I s nA nH nR n m H) (hFI : FI N s nA nH nR) : pm_ev tb xl xs mX4_count 0 [some (.ref 0), some (.int 6)] [] (pm_G F I) = some (some (.int (cntS s nR 0)), pm_G F I) := by
  have hD := hcl.1
  have hR := hcl.2.1
  have hF4 := hcl.2.2.1
  have hC := hcl.2.2.2
  have hB := ldB hD
  have h6 := hFI.1.1.1.2
  have h8 := hFI.1.1.2.1.2
  have h40 := hFI.1.1.2.2.1.2
  have hnA := hFI.1.1.1.1
  have hnH := hFI.1.1.2.1.1
  have hnR := hFI.1.1.2.2.1.1
  have qA : I 1 3 = nI nA := (rbg3 hR).trans hnA
  have qH : I 1 4 = nI nH := (rbg4 hR).trans hnH
  have qR : I 1 5 = nI nR := (rbg5 hR).trans hnR
  have hrb := hFI.rb
  have hT := hFI.1
  have c5 : I 0 5 = nI n := hC.2.1
  simp only [eX4_count_0, eX4_count_1_c0, eX4_count_1_c1, eX4_count_1_c2, eX4_count_1_c3, eX4_count_1_c4, eX4_count_1_c5, eX4_count_1_c6, eX4_count_1_c7, eX4_count_1_c8, eX4_count_1_c9, eX4_count_1_c10, eX4_count_1_c11, eX4_count_1_c12, eX4_count_1_c13, eX4_count_1_c14, eX4_count_1_c15, eX4_count_1_c16, eX4_count_1_d, eX4_count_84, eX4_count_85, eX4_count_88, eX4_count_91, eX4_count_92, eX4_count_93, eX4_count_96, eX4_count_99, eX4_count_101, eX4_count_102, eX4_count_103, eX4_count_104, eX4_count_107, eX4_count_110, eX4_count_111, eX4_count_112, eX4_count_115, eX4_count_118, eX4_count_119, eX4_count_120, eX4_count_123, eX4_count_126, eX4_count_127, eX4_count_128, eX4_count_131, eX4_count_134, eX4_count_135, eX4_count_136, eX4_count_139, eX4_count_140, eX4_count_143, eX4_count_144, eX4_count_145, eX4_count_148, eX4_count_149, eX4_count_152, eX4_count_153, eX4_count_154, eX4_count_157, eX4_count_158, eX4_count_161, eX4_count_162, eX4_count_163, eX4_count_166, eX4_count_167, eX4_count_170, eX4_count_171, eX4_count_172, eX4_count_175, eX4_count_176, eX4_count_179, eX4_count_180, eX4_count_181, eX4_count_184, eX4_count_185, eX4_count_188, eX4_count_189, eX4_count_190, eX4_count_193, eX4_count_196, eX4_count_197, eX4_count_198, eX4_count_201, eX4_count_204, eX4_count_205, eX4_count_206, eX4_count_209, eX4_count_212, eX4_count_213, eX4_count_214, eX4_count_217, eX4_count_220, eX4_count_221, eX4_count_222, eX4_count_225, eX4_count_226, eX4_count_229, one0, and_false, false_and, gk, gr, gi, gs, rv_some, ret_i, ret_n, Option.bind_some, List.cons_append, List.nil_append, z0, z1, zi, zj, i10, i01, true_or, or_true, eq_self, not_false_eq_true, not_true_eq_false, if_true, if_false, ite_not, Decidable.not_not, and_true, true_and, or_false, false_or, Nat.reduceLeDiff, Nat.reduceMod, Nat.reduceEqDiff, ld0 hD, ld1 hD, ld2 hD, ld3 hD, ld4 hD, ld5 hD, ld6 hD, lb0 (ldB hD), lb1 (ldB hD), lb2 (ldB hD), lb3 (ldB hD), lb4 (ldB hD), lb5 (ldB hD), lb6 (ldB hD), rbg3 hR, rbg4 hR, rbg5 hR, rbg6 hR, rbg7 hR, rbg8 hR, rbg9 hR, rbg10 hR, rbg11 hR, d90, X1_reportsInState_ev hB hR hT, X1_moneyInPools_ev hB hR hT, X1_openAppeals_ev hB hR hT, c5, qA, qH, qR]
  rfl
theorem cn7 (hcl : Cl F I s nA nH nR n m H) (hFI : FI N s nA nH nR) : pm_ev tb xl xs mX4_count 0 [some (.ref 0), some (.int 7)] [] (pm_G F I) = some (some (.int (cntS s nR 1)), pm_G F I) := by
  have hD := hcl.1
  have hR := hcl.2.1
  have hF4 := hcl.2.2.1
  have hC := hcl.2.2.2
  have hB := ldB hD
  have h6 := hFI.1.1.1.2
  have h8 := hFI.1.1.2.1.2
  have h40 := hFI.1.1.2.2.1.2
  have hnA := hFI.1.1.1.1
  have hnH := hFI.1.1.2.1.1
  have hnR := hFI.1.1.2.2.1.1
  have qA : I 1 3 = nI nA := (rbg3 hR).trans hnA
  have qH : I 1 4 = nI nH := (rbg4 hR).trans hnH
  have qR : I 1 5 = nI nR := (rbg5 hR).trans hnR
  have hrb := hFI.rb
  have hT := hFI.1
  have c5 : I 0 5 = nI n := hC.2.1
  simp only [eX4_count_0, eX4_count_1_c0, eX4_count_1_c1, eX4_count_1_c2, eX4_count_1_c3, eX4_count_1_c4, eX4_count_1_c5, eX4_count_1_c6, eX4_count_1_c7, eX4_count_1_c8, eX4_count_1_c9, eX4_count_1_c10, eX4_count_1_c11, eX4_count_1_c12, eX4_count_1_c13, eX4_count_1_c14, eX4_count_1_c15, eX4_count_1_c16, eX4_count_1_d, eX4_count_84, eX4_count_85, eX4_count_88, eX4_count_91, eX4_count_92, eX4_count_93, eX4_count_96, eX4_count_99, eX4_count_101, eX4_count_102, eX4_count_103, eX4_count_104, eX4_count_107, eX4_count_110, eX4_count_111, eX4_count_112, eX4_count_115, eX4_count_118, eX4_count_119, eX4_count_120, eX4_count_123, eX4_count_126, eX4_count_127, eX4_count_128, eX4_count_131, eX4_count_134, eX4_count_135, eX4_count_136, eX4_count_139, eX4_count_140, eX4_count_143, eX4_count_144, eX4_count_145, eX4_count_148, eX4_count_149, eX4_count_152, eX4_count_153, eX4_count_154, eX4_count_157, eX4_count_158, eX4_count_161, eX4_count_162, eX4_count_163, eX4_count_166, eX4_count_167, eX4_count_170, eX4_count_171, eX4_count_172, eX4_count_175, eX4_count_176, eX4_count_179, eX4_count_180, eX4_count_181, eX4_count_184, eX4_count_185, eX4_count_188, eX4_count_189, eX4_count_190, eX4_count_193, eX4_count_196, eX4_count_197, eX4_count_198, eX4_count_201, eX4_count_204, eX4_count_205, eX4_count_206, eX4_count_209, eX4_count_212, eX4_count_213, eX4_count_214, eX4_count_217, eX4_count_220, eX4_count_221, eX4_count_222, eX4_count_225, eX4_count_226, eX4_count_229, one0, and_false, false_and, gk, gr, gi, gs, rv_some, ret_i, ret_n, Option.bind_some, List.cons_append, List.nil_append, z0, z1, zi, zj, i10, i01, true_or, or_true, eq_self, not_false_eq_true, not_true_eq_false, if_true, if_false, ite_not, Decidable.not_not, and_true, true_and, or_false, false_or, Nat.reduceLeDiff, Nat.reduceMod, Nat.reduceEqDiff, ld0 hD, ld1 hD, ld2 hD, ld3 hD, ld4 hD, ld5 hD, ld6 hD, lb0 (ldB hD), lb1 (ldB hD), lb2 (ldB hD), lb3 (ldB hD), lb4 (ldB hD), lb5 (ldB hD), lb6 (ldB hD), rbg3 hR, rbg4 hR, rbg5 hR, rbg6 hR, rbg7 hR, rbg8 hR, rbg9 hR, rbg10 hR, rbg11 hR, d90, X1_reportsInState_ev hB hR hT, X1_moneyInPools_ev hB hR hT, X1_openAppeals_ev hB hR hT, c5, qA, qH, qR]
  rfl
theorem cn8 (hcl : Cl F I s nA nH nR n m H) (hFI : FI N s nA nH nR) : pm_ev tb xl xs mX4_count 0 [some (.ref 0), some (.int 8)] [] (pm_G F I) = some (some (.int (cntS s nR 2)), pm_G F I) := by
  have hD := hcl.1
  have hR := hcl.2.1
  have hF4 := hcl.2.2.1
  have hC := hcl.2.2.2
  have hB := ldB hD
  have h6 := hFI.1.1.1.2
  have h8 := hFI.1.1.2.1.2
  have h40 := hFI.1.1.2.2.1.2
  have hnA := hFI.1.1.1.1
  have hnH := hFI.1.1.2.1.1
  have hnR := hFI.1.1.2.2.1.1
  have qA : I 1 3 = nI nA := (rbg3 hR).trans hnA
  have qH : I 1 4 = nI nH := (rbg4 hR).trans hnH
  have qR : I 1 5 = nI nR := (rbg5 hR).trans hnR
  have hrb := hFI.rb
  have hT := hFI.1
  have c5 : I 0 5 = nI n := hC.2.1
  simp only [eX4_count_0, eX4_count_1_c0, eX4_count_1_c1, eX4_count_1_c2, eX4_count_1_c3, eX4_count_1_c4, eX4_count_1_c5, eX4_count_1_c6, eX4_count_1_c7, eX4_count_1_c8, eX4_count_1_c9, eX4_count_1_c10, eX4_count_1_c11, eX4_count_1_c12, eX4_count_1_c13, eX4_count_1_c14, eX4_count_1_c15, eX4_count_1_c16, eX4_count_1_d, eX4_count_84, eX4_count_85, eX4_count_88, eX4_count_91, eX4_count_92, eX4_count_93, eX4_count_96, eX4_count_99, eX4_count_101, eX4_count_102, eX4_count_103, eX4_count_104, eX4_count_107, eX4_count_110, eX4_count_111, eX4_count_112, eX4_count_115, eX4_count_118, eX4_count_119, eX4_count_120, eX4_count_123, eX4_count_126, eX4_count_127, eX4_count_128, eX4_count_131, eX4_count_134, eX4_count_135, eX4_count_136, eX4_count_139, eX4_count_140, eX4_count_143, eX4_count_144, eX4_count_145, eX4_count_148, eX4_count_149, eX4_count_152, eX4_count_153, eX4_count_154, eX4_count_157, eX4_count_158, eX4_count_161, eX4_count_162, eX4_count_163, eX4_count_166, eX4_count_167, eX4_count_170, eX4_count_171, eX4_count_172, eX4_count_175, eX4_count_176, eX4_count_179, eX4_count_180, eX4_count_181, eX4_count_184, eX4_count_185, eX4_count_188, eX4_count_189, eX4_count_190, eX4_count_193, eX4_count_196, eX4_count_197, eX4_count_198, eX4_count_201, eX4_count_204, eX4_count_205, eX4_count_206, eX4_count_209, eX4_count_212, eX4_count_213, eX4_count_214, eX4_count_217, eX4_count_220, eX4_count_221, eX4_count_222, eX4_count_225, eX4_count_226, eX4_count_229, one0, and_false, false_and, gk, gr, gi, gs, rv_some, ret_i, ret_n, Option.bind_some, List.cons_append, List.nil_append, z0, z1, zi, zj, i10, i01, true_or, or_true, eq_self, not_false_eq_true, not_true_eq_false, if_true, if_false, ite_not, Decidable.not_not, and_true, true_and, or_false, false_or, Nat.reduceLeDiff, Nat.reduceMod, Nat.reduceEqDiff, ld0 hD, ld1 hD, ld2 hD, ld3 hD, ld4 hD, ld5 hD, ld6 hD, lb0 (ldB hD), lb1 (ldB hD), lb2 (ldB hD), lb3 (ldB hD), lb4 (ldB hD), lb5 (ldB hD), lb6 (ldB hD), rbg3 hR, rbg4 hR, rbg5 hR, rbg6 hR, rbg7 hR, rbg8 hR, rbg9 hR, rbg10 hR, rbg11 hR, d90, X1_reportsInState_ev hB hR hT, X1_moneyInPools_ev hB hR hT, X1_openAppeals_ev hB hR hT, c5, qA, qH, qR]
  rfl
theorem cn9 (hcl : Cl F I s nA nH nR n m H) (hFI : FI N s nA nH nR) : pm_ev tb xl xs mX4_count 0 [some (.ref 0), some (.int 9)] [] (pm_G F I) = some (some (.int (cntS s nR 3)), pm_G F I) := by
  have hD := hcl.1
  have hR := hcl.2.1
  have hF4 := hcl.2.2.1
  have hC := hcl.2.2.2
  have hB := ldB hD
  have h6 := hFI.1.1.1.2
  have h8 := hFI.1.1.2.1.2
  have h40 := hFI.1.1.2.2.1.2
  have hnA := hFI.1.1.1.1
  have hnH := hFI.1.1.2.1.1
  have hnR := hFI.1.1.2.2.1.1
  have qA : I 1 3 = nI nA := (rbg3 hR).trans hnA
  have qH : I 1 4 = nI nH := (rbg4 hR).trans hnH
  have qR : I 1 5 = nI nR := (rbg5 hR).trans hnR
  have hrb := hFI.rb
  have hT := hFI.1
  have c5 : I 0 5 = nI n := hC.2.1
  simp only [eX4_count_0, eX4_count_1_c0, eX4_count_1_c1, eX4_count_1_c2, eX4_count_1_c3, eX4_count_1_c4, eX4_count_1_c5, eX4_count_1_c6, eX4_count_1_c7, eX4_count_1_c8, eX4_count_1_c9, eX4_count_1_c10, eX4_count_1_c11, eX4_count_1_c12, eX4_count_1_c13, eX4_count_1_c14, eX4_count_1_c15, eX4_count_1_c16, eX4_count_1_d, eX4_count_84, eX4_count_85, eX4_count_88, eX4_count_91, eX4_count_92, eX4_count_93, eX4_count_96, eX4_count_99, eX4_count_101, eX4_count_102, eX4_count_103, eX4_count_104, eX4_count_107, eX4_count_110, eX4_count_111, eX4_count_112, eX4_count_115, eX4_count_118, eX4_count_119, eX4_count_120, eX4_count_123, eX4_count_126, eX4_count_127, eX4_count_128, eX4_count_131, eX4_count_134, eX4_count_135, eX4_count_136, eX4_count_139, eX4_count_140, eX4_count_143, eX4_count_144, eX4_count_145, eX4_count_148, eX4_count_149, eX4_count_152, eX4_count_153, eX4_count_154, eX4_count_157, eX4_count_158, eX4_count_161, eX4_count_162, eX4_count_163, eX4_count_166, eX4_count_167, eX4_count_170, eX4_count_171, eX4_count_172, eX4_count_175, eX4_count_176, eX4_count_179, eX4_count_180, eX4_count_181, eX4_count_184, eX4_count_185, eX4_count_188, eX4_count_189, eX4_count_190, eX4_count_193, eX4_count_196, eX4_count_197, eX4_count_198, eX4_count_201, eX4_count_204, eX4_count_205, eX4_count_206, eX4_count_209, eX4_count_212, eX4_count_213, eX4_count_214, eX4_count_217, eX4_count_220, eX4_count_221, eX4_count_222, eX4_count_225, eX4_count_226, eX4_count_229, one0, and_false, false_and, gk, gr, gi, gs, rv_some, ret_i, ret_n, Option.bind_some, List.cons_append, List.nil_append, z0, z1, zi, zj, i10, i01, true_or, or_true, eq_self, not_false_eq_true, not_true_eq_false, if_true, if_false, ite_not, Decidable.not_not, and_true, true_and, or_false, false_or, Nat.reduceLeDiff, Nat.reduceMod, Nat.reduceEqDiff, ld0 hD, ld1 hD, ld2 hD, ld3 hD, ld4 hD, ld5 hD, ld6 hD, lb0 (ldB hD), lb1 (ldB hD), lb2 (ldB hD), lb3 (ldB hD), lb4 (ldB hD), lb5 (ldB hD), lb6 (ldB hD), rbg3 hR, rbg4 hR, rbg5 hR, rbg6 hR, rbg7 hR, rbg8 hR, rbg9 hR, rbg10 hR, rbg11 hR, d90, X1_reportsInState_ev hB hR hT, X1_moneyInPools_ev hB hR hT, X1_openAppeals_ev hB hR hT, c5, qA, qH, qR]
  rfl
theorem cn10 (hcl : Cl F I s nA nH nR n m H) (hFI : FI N s nA nH nR) : pm_ev tb xl xs mX4_count 0 [some (.ref 0), some (.int 10)] [] (pm_G F I) = some (some (.int (cntS s nR 4)), pm_G F I) := by
  have hD := hcl.1
  have hR := hcl.2.1
  have hF4 := hcl.2.2.1
  have hC := hcl.2.2.2
  have hB := ldB hD
  have h6 := hFI.1.1.1.2
  have h8 := hFI.1.1.2.1.2
  have h40 := hFI.1.1.2.2.1.2
  have hnA := hFI.1.1.1.1
  have hnH := hFI.1.1.2.1.1
  have hnR := hFI.1.1.2.2.1.1
  have qA : I 1 3 = nI nA := (rbg3 hR).trans hnA
  have qH : I 1 4 = nI nH := (rbg4 hR).trans hnH
  have qR : I 1 5 = nI nR := (rbg5 hR).trans hnR
  have hrb := hFI.rb
  have hT := hFI.1
  have c5 : I 0 5 = nI n := hC.2.1
  simp only [eX4_count_0, eX4_count_1_c0, eX4_count_1_c1, eX4_count_1_c2, eX4_count_1_c3, eX4_count_1_c4, eX4_count_1_c5, eX4_count_1_c6, eX4_count_1_c7, eX4_count_1_c8, eX4_count_1_c9, eX4_count_1_c10, eX4_count_1_c11, eX4_count_1_c12, eX4_count_1_c13, eX4_count_1_c14, eX4_count_1_c15, eX4_count_1_c16, eX4_count_1_d, eX4_count_84, eX4_count_85, eX4_count_88, eX4_count_91, eX4_count_92, eX4_count_93, eX4_count_96, eX4_count_99, eX4_count_101, eX4_count_102, eX4_count_103, eX4_count_104, eX4_count_107, eX4_count_110, eX4_count_111, eX4_count_112, eX4_count_115, eX4_count_118, eX4_count_119, eX4_count_120, eX4_count_123, eX4_count_126, eX4_count_127, eX4_count_128, eX4_count_131, eX4_count_134, eX4_count_135, eX4_count_136, eX4_count_139, eX4_count_140, eX4_count_143, eX4_count_144, eX4_count_145, eX4_count_148, eX4_count_149, eX4_count_152, eX4_count_153, eX4_count_154, eX4_count_157, eX4_count_158, eX4_count_161, eX4_count_162, eX4_count_163, eX4_count_166, eX4_count_167, eX4_count_170, eX4_count_171, eX4_count_172, eX4_count_175, eX4_count_176, eX4_count_179, eX4_count_180, eX4_count_181, eX4_count_184, eX4_count_185, eX4_count_188, eX4_count_189, eX4_count_190, eX4_count_193, eX4_count_196, eX4_count_197, eX4_count_198, eX4_count_201, eX4_count_204, eX4_count_205, eX4_count_206, eX4_count_209, eX4_count_212, eX4_count_213, eX4_count_214, eX4_count_217, eX4_count_220, eX4_count_221, eX4_count_222, eX4_count_225, eX4_count_226, eX4_count_229, one0, and_false, false_and, gk, gr, gi, gs, rv_some, ret_i, ret_n, Option.bind_some, List.cons_append, List.nil_append, z0, z1, zi, zj, i10, i01, true_or, or_true, eq_self, not_false_eq_true, not_true_eq_false, if_true, if_false, ite_not, Decidable.not_not, and_true, true_and, or_false, false_or, Nat.reduceLeDiff, Nat.reduceMod, Nat.reduceEqDiff, ld0 hD, ld1 hD, ld2 hD, ld3 hD, ld4 hD, ld5 hD, ld6 hD, lb0 (ldB hD), lb1 (ldB hD), lb2 (ldB hD), lb3 (ldB hD), lb4 (ldB hD), lb5 (ldB hD), lb6 (ldB hD), rbg3 hR, rbg4 hR, rbg5 hR, rbg6 hR, rbg7 hR, rbg8 hR, rbg9 hR, rbg10 hR, rbg11 hR, d90, X1_reportsInState_ev hB hR hT, X1_moneyInPools_ev hB hR hT, X1_openAppeals_ev hB hR hT, c5, qA, qH, qR]
  rfl
theorem cn11 (hcl : Cl F I s nA nH nR n m H) (hFI : FI N s nA nH nR) : pm_ev tb xl xs mX4_count 0 [some (.ref 0), some (.int 11)] [] (pm_G F I) = some (some (.int (cntS s nR 5)), pm_G F I) := by
  have hD := hcl.1
  have hR := hcl.2.1
  have hF4 := hcl.2.2.1
  have hC := hcl.2.2.2
  have hB := ldB hD
  have h6 := hFI.1.1.1.2
  have h8 := hFI.1.1.2.1.2
  have h40 := hFI.1.1.2.2.1.2
  have hnA := hFI.1.1.1.1
  have hnH := hFI.1.1.2.1.1
  have hnR := hFI.1.1.2.2.1.1
  have qA : I 1 3 = nI nA := (rbg3 hR).trans hnA
  have qH : I 1 4 = nI nH := (rbg4 hR).trans hnH
  have qR : I 1 5 = nI nR := (rbg5 hR).trans hnR
  have hrb := hFI.rb
  have hT := hFI.1
  have c5 : I 0 5 = nI n := hC.2.1
  simp only [eX4_count_0, eX4_count_1_c0, eX4_count_1_c1, eX4_count_1_c2, eX4_count_1_c3, eX4_count_1_c4, eX4_count_1_c5, eX4_count_1_c6, eX4_count_1_c7, eX4_count_1_c8, eX4_count_1_c9, eX4_count_1_c10, eX4_count_1_c11, eX4_count_1_c12, eX4_count_1_c13, eX4_count_1_c14, eX4_count_1_c15, eX4_count_1_c16, eX4_count_1_d, eX4_count_84, eX4_count_85, eX4_count_88, eX4_count_91, eX4_count_92, eX4_count_93, eX4_count_96, eX4_count_99, eX4_count_101, eX4_count_102, eX4_count_103, eX4_count_104, eX4_count_107, eX4_count_110, eX4_count_111, eX4_count_112, eX4_count_115, eX4_count_118, eX4_count_119, eX4_count_120, eX4_count_123, eX4_count_126, eX4_count_127, eX4_count_128, eX4_count_131, eX4_count_134, eX4_count_135, eX4_count_136, eX4_count_139, eX4_count_140, eX4_count_143, eX4_count_144, eX4_count_145, eX4_count_148, eX4_count_149, eX4_count_152, eX4_count_153, eX4_count_154, eX4_count_157, eX4_count_158, eX4_count_161, eX4_count_162, eX4_count_163, eX4_count_166, eX4_count_167, eX4_count_170, eX4_count_171, eX4_count_172, eX4_count_175, eX4_count_176, eX4_count_179, eX4_count_180, eX4_count_181, eX4_count_184, eX4_count_185, eX4_count_188, eX4_count_189, eX4_count_190, eX4_count_193, eX4_count_196, eX4_count_197, eX4_count_198, eX4_count_201, eX4_count_204, eX4_count_205, eX4_count_206, eX4_count_209, eX4_count_212, eX4_count_213, eX4_count_214, eX4_count_217, eX4_count_220, eX4_count_221, eX4_count_222, eX4_count_225, eX4_count_226, eX4_count_229, one0, and_false, false_and, gk, gr, gi, gs, rv_some, ret_i, ret_n, Option.bind_some, List.cons_append, List.nil_append, z0, z1, zi, zj, i10, i01, true_or, or_true, eq_self, not_false_eq_true, not_true_eq_false, if_true, if_false, ite_not, Decidable.not_not, and_true, true_and, or_false, false_or, Nat.reduceLeDiff, Nat.reduceMod, Nat.reduceEqDiff, ld0 hD, ld1 hD, ld2 hD, ld3 hD, ld4 hD, ld5 hD, ld6 hD, lb0 (ldB hD), lb1 (ldB hD), lb2 (ldB hD), lb3 (ldB hD), lb4 (ldB hD), lb5 (ldB hD), lb6 (ldB hD), rbg3 hR, rbg4 hR, rbg5 hR, rbg6 hR, rbg7 hR, rbg8 hR, rbg9 hR, rbg10 hR, rbg11 hR, d90, X1_reportsInState_ev hB hR hT, X1_moneyInPools_ev hB hR hT, X1_openAppeals_ev hB hR hT, c5, qA, qH, qR]
  rfl
theorem cn12 (hcl : Cl F I s nA nH nR n m H) (hFI : FI N s nA nH nR) : pm_ev tb xl xs mX4_count 0 [some (.ref 0), some (.int 12)] [] (pm_G F I) = some (some (.int (poolS s nA)), pm_G F I) := by
  have hD := hcl.1
  have hR := hcl.2.1
  have hF4 := hcl.2.2.1
  have hC := hcl.2.2.2
  have hB := ldB hD
  have h6 := hFI.1.1.1.2
  have h8 := hFI.1.1.2.1.2
  have h40 := hFI.1.1.2.2.1.2
  have hnA := hFI.1.1.1.1
  have hnH := hFI.1.1.2.1.1
  have hnR := hFI.1.1.2.2.1.1
  have qA : I 1 3 = nI nA := (rbg3 hR).trans hnA
  have qH : I 1 4 = nI nH := (rbg4 hR).trans hnH
  have qR : I 1 5 = nI nR := (rbg5 hR).trans hnR
  have hrb := hFI.rb
  have hT := hFI.1
  have c5 : I 0 5 = nI n := hC.2.1
  simp only [eX4_count_0, eX4_count_1_c0, eX4_count_1_c1, eX4_count_1_c2, eX4_count_1_c3, eX4_count_1_c4, eX4_count_1_c5, eX4_count_1_c6, eX4_count_1_c7, eX4_count_1_c8, eX4_count_1_c9, eX4_count_1_c10, eX4_count_1_c11, eX4_count_1_c12, eX4_count_1_c13, eX4_count_1_c14, eX4_count_1_c15, eX4_count_1_c16, eX4_count_1_d, eX4_count_84, eX4_count_85, eX4_count_88, eX4_count_91, eX4_count_92, eX4_count_93, eX4_count_96, eX4_count_99, eX4_count_101, eX4_count_102, eX4_count_103, eX4_count_104, eX4_count_107, eX4_count_110, eX4_count_111, eX4_count_112, eX4_count_115, eX4_count_118, eX4_count_119, eX4_count_120, eX4_count_123, eX4_count_126, eX4_count_127, eX4_count_128, eX4_count_131, eX4_count_134, eX4_count_135, eX4_count_136, eX4_count_139, eX4_count_140, eX4_count_143, eX4_count_144, eX4_count_145, eX4_count_148, eX4_count_149, eX4_count_152, eX4_count_153, eX4_count_154, eX4_count_157, eX4_count_158, eX4_count_161, eX4_count_162, eX4_count_163, eX4_count_166, eX4_count_167, eX4_count_170, eX4_count_171, eX4_count_172, eX4_count_175, eX4_count_176, eX4_count_179, eX4_count_180, eX4_count_181, eX4_count_184, eX4_count_185, eX4_count_188, eX4_count_189, eX4_count_190, eX4_count_193, eX4_count_196, eX4_count_197, eX4_count_198, eX4_count_201, eX4_count_204, eX4_count_205, eX4_count_206, eX4_count_209, eX4_count_212, eX4_count_213, eX4_count_214, eX4_count_217, eX4_count_220, eX4_count_221, eX4_count_222, eX4_count_225, eX4_count_226, eX4_count_229, one0, and_false, false_and, gk, gr, gi, gs, rv_some, ret_i, ret_n, Option.bind_some, List.cons_append, List.nil_append, z0, z1, zi, zj, i10, i01, true_or, or_true, eq_self, not_false_eq_true, not_true_eq_false, if_true, if_false, ite_not, Decidable.not_not, and_true, true_and, or_false, false_or, Nat.reduceLeDiff, Nat.reduceMod, Nat.reduceEqDiff, ld0 hD, ld1 hD, ld2 hD, ld3 hD, ld4 hD, ld5 hD, ld6 hD, lb0 (ldB hD), lb1 (ldB hD), lb2 (ldB hD), lb3 (ldB hD), lb4 (ldB hD), lb5 (ldB hD), lb6 (ldB hD), rbg3 hR, rbg4 hR, rbg5 hR, rbg6 hR, rbg7 hR, rbg8 hR, rbg9 hR, rbg10 hR, rbg11 hR, d90, X1_reportsInState_ev hB hR hT, X1_moneyInPools_ev hB hR hT, X1_openAppeals_ev hB hR hT, c5, qA, qH, qR]
  rfl
theorem cn13 (hcl : Cl F I s nA nH nR n m H) (hFI : FI N s nA nH nR) : pm_ev tb xl xs mX4_count 0 [some (.ref 0), some (.int 13)] [] (pm_G F I) = some (some (.int (gp s 7)), pm_G F I) := by
  have hD := hcl.1
  have hR := hcl.2.1
  have hF4 := hcl.2.2.1
  have hC := hcl.2.2.2
  have hB := ldB hD
  have h6 := hFI.1.1.1.2
  have h8 := hFI.1.1.2.1.2
  have h40 := hFI.1.1.2.2.1.2
  have hnA := hFI.1.1.1.1
  have hnH := hFI.1.1.2.1.1
  have hnR := hFI.1.1.2.2.1.1
  have qA : I 1 3 = nI nA := (rbg3 hR).trans hnA
  have qH : I 1 4 = nI nH := (rbg4 hR).trans hnH
  have qR : I 1 5 = nI nR := (rbg5 hR).trans hnR
  have hrb := hFI.rb
  have hT := hFI.1
  have c5 : I 0 5 = nI n := hC.2.1
  simp only [eX4_count_0, eX4_count_1_c0, eX4_count_1_c1, eX4_count_1_c2, eX4_count_1_c3, eX4_count_1_c4, eX4_count_1_c5, eX4_count_1_c6, eX4_count_1_c7, eX4_count_1_c8, eX4_count_1_c9, eX4_count_1_c10, eX4_count_1_c11, eX4_count_1_c12, eX4_count_1_c13, eX4_count_1_c14, eX4_count_1_c15, eX4_count_1_c16, eX4_count_1_d, eX4_count_84, eX4_count_85, eX4_count_88, eX4_count_91, eX4_count_92, eX4_count_93, eX4_count_96, eX4_count_99, eX4_count_101, eX4_count_102, eX4_count_103, eX4_count_104, eX4_count_107, eX4_count_110, eX4_count_111, eX4_count_112, eX4_count_115, eX4_count_118, eX4_count_119, eX4_count_120, eX4_count_123, eX4_count_126, eX4_count_127, eX4_count_128, eX4_count_131, eX4_count_134, eX4_count_135, eX4_count_136, eX4_count_139, eX4_count_140, eX4_count_143, eX4_count_144, eX4_count_145, eX4_count_148, eX4_count_149, eX4_count_152, eX4_count_153, eX4_count_154, eX4_count_157, eX4_count_158, eX4_count_161, eX4_count_162, eX4_count_163, eX4_count_166, eX4_count_167, eX4_count_170, eX4_count_171, eX4_count_172, eX4_count_175, eX4_count_176, eX4_count_179, eX4_count_180, eX4_count_181, eX4_count_184, eX4_count_185, eX4_count_188, eX4_count_189, eX4_count_190, eX4_count_193, eX4_count_196, eX4_count_197, eX4_count_198, eX4_count_201, eX4_count_204, eX4_count_205, eX4_count_206, eX4_count_209, eX4_count_212, eX4_count_213, eX4_count_214, eX4_count_217, eX4_count_220, eX4_count_221, eX4_count_222, eX4_count_225, eX4_count_226, eX4_count_229, one0, and_false, false_and, gk, gr, gi, gs, rv_some, ret_i, ret_n, Option.bind_some, List.cons_append, List.nil_append, z0, z1, zi, zj, i10, i01, true_or, or_true, eq_self, not_false_eq_true, not_true_eq_false, if_true, if_false, ite_not, Decidable.not_not, and_true, true_and, or_false, false_or, Nat.reduceLeDiff, Nat.reduceMod, Nat.reduceEqDiff, ld0 hD, ld1 hD, ld2 hD, ld3 hD, ld4 hD, ld5 hD, ld6 hD, lb0 (ldB hD), lb1 (ldB hD), lb2 (ldB hD), lb3 (ldB hD), lb4 (ldB hD), lb5 (ldB hD), lb6 (ldB hD), rbg3 hR, rbg4 hR, rbg5 hR, rbg6 hR, rbg7 hR, rbg8 hR, rbg9 hR, rbg10 hR, rbg11 hR, d90, X1_reportsInState_ev hB hR hT, X1_moneyInPools_ev hB hR hT, X1_openAppeals_ev hB hR hT, c5, qA, qH, qR]
theorem cn14 (hcl : Cl F I s nA nH nR n m H) (hFI : FI N s nA nH nR) : pm_ev tb xl xs mX4_count 0 [some (.ref 0), some (.int 14)] [] (pm_G F I) = some (some (.int (gp s 8)), pm_G F I) := by
  have hD := hcl.1
  have hR := hcl.2.1
  have hF4 := hcl.2.2.1
  have hC := hcl.2.2.2
  have hB := ldB hD
  have h6 := hFI.1.1.1.2
  have h8 := hFI.1.1.2.1.2
  have h40 := hFI.1.1.2.2.1.2
  have hnA := hFI.1.1.1.1
  have hnH := hFI.1.1.2.1.1
  have hnR := hFI.1.1.2.2.1.1
  have qA : I 1 3 = nI nA := (rbg3 hR).trans hnA
  have qH : I 1 4 = nI nH := (rbg4 hR).trans hnH
  have qR : I 1 5 = nI nR := (rbg5 hR).trans hnR
  have hrb := hFI.rb
  have hT := hFI.1
  have c5 : I 0 5 = nI n := hC.2.1
  simp only [eX4_count_0, eX4_count_1_c0, eX4_count_1_c1, eX4_count_1_c2, eX4_count_1_c3, eX4_count_1_c4, eX4_count_1_c5, eX4_count_1_c6, eX4_count_1_c7, eX4_count_1_c8, eX4_count_1_c9, eX4_count_1_c10, eX4_count_1_c11, eX4_count_1_c12, eX4_count_1_c13, eX4_count_1_c14, eX4_count_1_c15, eX4_count_1_c16, eX4_count_1_d, eX4_count_84, eX4_count_85, eX4_count_88, eX4_count_91, eX4_count_92, eX4_count_93, eX4_count_96, eX4_count_99, eX4_count_101, eX4_count_102, eX4_count_103, eX4_count_104, eX4_count_107, eX4_count_110, eX4_count_111, eX4_count_112, eX4_count_115, eX4_count_118, eX4_count_119, eX4_count_120, eX4_count_123, eX4_count_126, eX4_count_127, eX4_count_128, eX4_count_131, eX4_count_134, eX4_count_135, eX4_count_136, eX4_count_139, eX4_count_140, eX4_count_143, eX4_count_144, eX4_count_145, eX4_count_148, eX4_count_149, eX4_count_152, eX4_count_153, eX4_count_154, eX4_count_157, eX4_count_158, eX4_count_161, eX4_count_162, eX4_count_163, eX4_count_166, eX4_count_167, eX4_count_170, eX4_count_171, eX4_count_172, eX4_count_175, eX4_count_176, eX4_count_179, eX4_count_180, eX4_count_181, eX4_count_184, eX4_count_185, eX4_count_188, eX4_count_189, eX4_count_190, eX4_count_193, eX4_count_196, eX4_count_197, eX4_count_198, eX4_count_201, eX4_count_204, eX4_count_205, eX4_count_206, eX4_count_209, eX4_count_212, eX4_count_213, eX4_count_214, eX4_count_217, eX4_count_220, eX4_count_221, eX4_count_222, eX4_count_225, eX4_count_226, eX4_count_229, one0, and_false, false_and, gk, gr, gi, gs, rv_some, ret_i, ret_n, Option.bind_some, List.cons_append, List.nil_append, z0, z1, zi, zj, i10, i01, true_or, or_true, eq_self, not_false_eq_true, not_true_eq_false, if_true, if_false, ite_not, Decidable.not_not, and_true, true_and, or_false, false_or, Nat.reduceLeDiff, Nat.reduceMod, Nat.reduceEqDiff, ld0 hD, ld1 hD, ld2 hD, ld3 hD, ld4 hD, ld5 hD, ld6 hD, lb0 (ldB hD), lb1 (ldB hD), lb2 (ldB hD), lb3 (ldB hD), lb4 (ldB hD), lb5 (ldB hD), lb6 (ldB hD), rbg3 hR, rbg4 hR, rbg5 hR, rbg6 hR, rbg7 hR, rbg8 hR, rbg9 hR, rbg10 hR, rbg11 hR, d90, X1_reportsInState_ev hB hR hT, X1_moneyInPools_ev hB hR hT, X1_openAppeals_ev hB hR hT, c5, qA, qH, qR]
theorem cn15 (hcl : Cl F I s nA nH nR n m H) (hFI : FI N s nA nH nR) : pm_ev tb xl xs mX4_count 0 [some (.ref 0), some (.int 15)] [] (pm_G F I) = some (some (.int (apS s nR)), pm_G F I) := by
  have hD := hcl.1
  have hR := hcl.2.1
  have hF4 := hcl.2.2.1
  have hC := hcl.2.2.2
  have hB := ldB hD
  have h6 := hFI.1.1.1.2
  have h8 := hFI.1.1.2.1.2
  have h40 := hFI.1.1.2.2.1.2
  have hnA := hFI.1.1.1.1
  have hnH := hFI.1.1.2.1.1
  have hnR := hFI.1.1.2.2.1.1
  have qA : I 1 3 = nI nA := (rbg3 hR).trans hnA
  have qH : I 1 4 = nI nH := (rbg4 hR).trans hnH
  have qR : I 1 5 = nI nR := (rbg5 hR).trans hnR
  have hrb := hFI.rb
  have hT := hFI.1
  have c5 : I 0 5 = nI n := hC.2.1
  simp only [eX4_count_0, eX4_count_1_c0, eX4_count_1_c1, eX4_count_1_c2, eX4_count_1_c3, eX4_count_1_c4, eX4_count_1_c5, eX4_count_1_c6, eX4_count_1_c7, eX4_count_1_c8, eX4_count_1_c9, eX4_count_1_c10, eX4_count_1_c11, eX4_count_1_c12, eX4_count_1_c13, eX4_count_1_c14, eX4_count_1_c15, eX4_count_1_c16, eX4_count_1_d, eX4_count_84, eX4_count_85, eX4_count_88, eX4_count_91, eX4_count_92, eX4_count_93, eX4_count_96, eX4_count_99, eX4_count_101, eX4_count_102, eX4_count_103, eX4_count_104, eX4_count_107, eX4_count_110, eX4_count_111, eX4_count_112, eX4_count_115, eX4_count_118, eX4_count_119, eX4_count_120, eX4_count_123, eX4_count_126, eX4_count_127, eX4_count_128, eX4_count_131, eX4_count_134, eX4_count_135, eX4_count_136, eX4_count_139, eX4_count_140, eX4_count_143, eX4_count_144, eX4_count_145, eX4_count_148, eX4_count_149, eX4_count_152, eX4_count_153, eX4_count_154, eX4_count_157, eX4_count_158, eX4_count_161, eX4_count_162, eX4_count_163, eX4_count_166, eX4_count_167, eX4_count_170, eX4_count_171, eX4_count_172, eX4_count_175, eX4_count_176, eX4_count_179, eX4_count_180, eX4_count_181, eX4_count_184, eX4_count_185, eX4_count_188, eX4_count_189, eX4_count_190, eX4_count_193, eX4_count_196, eX4_count_197, eX4_count_198, eX4_count_201, eX4_count_204, eX4_count_205, eX4_count_206, eX4_count_209, eX4_count_212, eX4_count_213, eX4_count_214, eX4_count_217, eX4_count_220, eX4_count_221, eX4_count_222, eX4_count_225, eX4_count_226, eX4_count_229, one0, and_false, false_and, gk, gr, gi, gs, rv_some, ret_i, ret_n, Option.bind_some, List.cons_append, List.nil_append, z0, z1, zi, zj, i10, i01, true_or, or_true, eq_self, not_false_eq_true, not_true_eq_false, if_true, if_false, ite_not, Decidable.not_not, and_true, true_and, or_false, false_or, Nat.reduceLeDiff, Nat.reduceMod, Nat.reduceEqDiff, ld0 hD, ld1 hD, ld2 hD, ld3 hD, ld4 hD, ld5 hD, ld6 hD, lb0 (ldB hD), lb1 (ldB hD), lb2 (ldB hD), lb3 (ldB hD), lb4 (ldB hD), lb5 (ldB hD), lb6 (ldB hD), rbg3 hR, rbg4 hR, rbg5 hR, rbg6 hR, rbg7 hR, rbg8 hR, rbg9 hR, rbg10 hR, rbg11 hR, d90, X1_reportsInState_ev hB hR hT, X1_moneyInPools_ev hB hR hT, X1_openAppeals_ev hB hR hT, c5, qA, qH, qR]
  rfl
theorem cn16 (hcl : Cl F I s nA nH nR n m H) (hFI : FI N s nA nH nR) : pm_ev tb xl xs mX4_count 0 [some (.ref 0), some (.int 16)] [] (pm_G F I) = some (some (.int (nI n)), pm_G F I) := by
  have hD := hcl.1
  have hR := hcl.2.1
  have hF4 := hcl.2.2.1
  have hC := hcl.2.2.2
  have hB := ldB hD
  have h6 := hFI.1.1.1.2
  have h8 := hFI.1.1.2.1.2
  have h40 := hFI.1.1.2.2.1.2
  have hnA := hFI.1.1.1.1
  have hnH := hFI.1.1.2.1.1
  have hnR := hFI.1.1.2.2.1.1
  have qA : I 1 3 = nI nA := (rbg3 hR).trans hnA
  have qH : I 1 4 = nI nH := (rbg4 hR).trans hnH
  have qR : I 1 5 = nI nR := (rbg5 hR).trans hnR
  have hrb := hFI.rb
  have hT := hFI.1
  have c5 : I 0 5 = nI n := hC.2.1
  simp only [eX4_count_0, eX4_count_1_c0, eX4_count_1_c1, eX4_count_1_c2, eX4_count_1_c3, eX4_count_1_c4, eX4_count_1_c5, eX4_count_1_c6, eX4_count_1_c7, eX4_count_1_c8, eX4_count_1_c9, eX4_count_1_c10, eX4_count_1_c11, eX4_count_1_c12, eX4_count_1_c13, eX4_count_1_c14, eX4_count_1_c15, eX4_count_1_c16, eX4_count_1_d, eX4_count_84, eX4_count_85, eX4_count_88, eX4_count_91, eX4_count_92, eX4_count_93, eX4_count_96, eX4_count_99, eX4_count_101, eX4_count_102, eX4_count_103, eX4_count_104, eX4_count_107, eX4_count_110, eX4_count_111, eX4_count_112, eX4_count_115, eX4_count_118, eX4_count_119, eX4_count_120, eX4_count_123, eX4_count_126, eX4_count_127, eX4_count_128, eX4_count_131, eX4_count_134, eX4_count_135, eX4_count_136, eX4_count_139, eX4_count_140, eX4_count_143, eX4_count_144, eX4_count_145, eX4_count_148, eX4_count_149, eX4_count_152, eX4_count_153, eX4_count_154, eX4_count_157, eX4_count_158, eX4_count_161, eX4_count_162, eX4_count_163, eX4_count_166, eX4_count_167, eX4_count_170, eX4_count_171, eX4_count_172, eX4_count_175, eX4_count_176, eX4_count_179, eX4_count_180, eX4_count_181, eX4_count_184, eX4_count_185, eX4_count_188, eX4_count_189, eX4_count_190, eX4_count_193, eX4_count_196, eX4_count_197, eX4_count_198, eX4_count_201, eX4_count_204, eX4_count_205, eX4_count_206, eX4_count_209, eX4_count_212, eX4_count_213, eX4_count_214, eX4_count_217, eX4_count_220, eX4_count_221, eX4_count_222, eX4_count_225, eX4_count_226, eX4_count_229, one0, and_false, false_and, gk, gr, gi, gs, rv_some, ret_i, ret_n, Option.bind_some, List.cons_append, List.nil_append, z0, z1, zi, zj, i10, i01, true_or, or_true, eq_self, not_false_eq_true, not_true_eq_false, if_true, if_false, ite_not, Decidable.not_not, and_true, true_and, or_false, false_or, Nat.reduceLeDiff, Nat.reduceMod, Nat.reduceEqDiff, ld0 hD, ld1 hD, ld2 hD, ld3 hD, ld4 hD, ld5 hD, ld6 hD, lb0 (ldB hD), lb1 (ldB hD), lb2 (ldB hD), lb3 (ldB hD), lb4 (ldB hD), lb5 (ldB hD), lb6 (ldB hD), rbg3 hR, rbg4 hR, rbg5 hR, rbg6 hR, rbg7 hR, rbg8 hR, rbg9 hR, rbg10 hR, rbg11 hR, d90, X1_reportsInState_ev hB hR hT, X1_moneyInPools_ev hB hR hT, X1_openAppeals_ev hB hR hT, c5, qA, qH, qR]
theorem cn17 (hcl : Cl F I s nA nH nR n m H) (hFI : FI N s nA nH nR) : pm_ev tb xl xs mX4_count 0 [some (.ref 0), some (.int 17)] [] (pm_G F I) = some (some (.int (-10001)), pm_G F I) := by
  have hD := hcl.1
  have hR := hcl.2.1
  have hF4 := hcl.2.2.1
  have hC := hcl.2.2.2
  have hB := ldB hD
  have h6 := hFI.1.1.1.2
  have h8 := hFI.1.1.2.1.2
  have h40 := hFI.1.1.2.2.1.2
  have hnA := hFI.1.1.1.1
  have hnH := hFI.1.1.2.1.1
  have hnR := hFI.1.1.2.2.1.1
  have qA : I 1 3 = nI nA := (rbg3 hR).trans hnA
  have qH : I 1 4 = nI nH := (rbg4 hR).trans hnH
  have qR : I 1 5 = nI nR := (rbg5 hR).trans hnR
  have hrb := hFI.rb
  have hT := hFI.1
  have c5 : I 0 5 = nI n := hC.2.1
  simp only [eX4_count_0, eX4_count_1_c0, eX4_count_1_c1, eX4_count_1_c2, eX4_count_1_c3, eX4_count_1_c4, eX4_count_1_c5, eX4_count_1_c6, eX4_count_1_c7, eX4_count_1_c8, eX4_count_1_c9, eX4_count_1_c10, eX4_count_1_c11, eX4_count_1_c12, eX4_count_1_c13, eX4_count_1_c14, eX4_count_1_c15, eX4_count_1_c16, eX4_count_1_d, eX4_count_84, eX4_count_85, eX4_count_88, eX4_count_91, eX4_count_92, eX4_count_93, eX4_count_96, eX4_count_99, eX4_count_101, eX4_count_102, eX4_count_103, eX4_count_104, eX4_count_107, eX4_count_110, eX4_count_111, eX4_count_112, eX4_count_115, eX4_count_118, eX4_count_119, eX4_count_120, eX4_count_123, eX4_count_126, eX4_count_127, eX4_count_128, eX4_count_131, eX4_count_134, eX4_count_135, eX4_count_136, eX4_count_139, eX4_count_140, eX4_count_143, eX4_count_144, eX4_count_145, eX4_count_148, eX4_count_149, eX4_count_152, eX4_count_153, eX4_count_154, eX4_count_157, eX4_count_158, eX4_count_161, eX4_count_162, eX4_count_163, eX4_count_166, eX4_count_167, eX4_count_170, eX4_count_171, eX4_count_172, eX4_count_175, eX4_count_176, eX4_count_179, eX4_count_180, eX4_count_181, eX4_count_184, eX4_count_185, eX4_count_188, eX4_count_189, eX4_count_190, eX4_count_193, eX4_count_196, eX4_count_197, eX4_count_198, eX4_count_201, eX4_count_204, eX4_count_205, eX4_count_206, eX4_count_209, eX4_count_212, eX4_count_213, eX4_count_214, eX4_count_217, eX4_count_220, eX4_count_221, eX4_count_222, eX4_count_225, eX4_count_226, eX4_count_229, eX4_count_1_d (x := 17) (by decide), one0, and_false, false_and, gk, gr, gi, gs, rv_some, ret_i, ret_n, Option.bind_some, List.cons_append, List.nil_append, z0, z1, zi, zj, i10, i01, true_or, or_true, eq_self, not_false_eq_true, not_true_eq_false, if_true, if_false, ite_not, Decidable.not_not, and_true, true_and, or_false, false_or, Nat.reduceLeDiff, Nat.reduceMod, Nat.reduceEqDiff, ld0 hD, ld1 hD, ld2 hD, ld3 hD, ld4 hD, ld5 hD, ld6 hD, lb0 (ldB hD), lb1 (ldB hD), lb2 (ldB hD), lb3 (ldB hD), lb4 (ldB hD), lb5 (ldB hD), lb6 (ldB hD), rbg3 hR, rbg4 hR, rbg5 hR, rbg6 hR, rbg7 hR, rbg8 hR, rbg9 hR, rbg10 hR, rbg11 hR, d90, X1_reportsInState_ev hB hR hT, X1_moneyInPools_ev hB hR hT, X1_openAppeals_ev hB hR hT, c5, qA, qH, qR]
theorem cn (hcl : Cl F I s nA nH nR n m H) (hFI : FI N s nA nH nR) {k : Nat} (hk : k < 17) : pm_ev tb xl xs mX4_count 0 [some (.ref 0), some (.int (nI k))] [] (pm_G F I) = some (some (.int (cV s nA nH nR n k)), pm_G F I) := by
  match k, hk with
  | 0, _ => exact cn0 hcl hFI
  | 1, _ => exact cn1 hcl hFI
  | 2, _ => exact cn2 hcl hFI
  | 3, _ => exact cn3 hcl hFI
  | 4, _ => exact cn4 hcl hFI
  | 5, _ => exact cn5 hcl hFI
  | 6, _ => exact cn6 hcl hFI
  | 7, _ => exact cn7 hcl hFI
  | 8, _ => exact cn8 hcl hFI
  | 9, _ => exact cn9 hcl hFI
  | 10, _ => exact cn10 hcl hFI
  | 11, _ => exact cn11 hcl hFI
  | 12, _ => exact cn12 hcl hFI
  | 13, _ => exact cn13 hcl hFI
  | 14, _ => exact cn14 hcl hFI
  | 15, _ => exact cn15 hcl hFI
  | 16, _ => exact cn16 hcl hFI
  | k + 17, hk => exact absurd hk (by omega)
def aV (s : St) (nR a : Nat) (k : Nat) : Int32 := match k with
  | 0 => ap s a 0
  | 1 => ap s a 1
  | 2 => ap s a 2
  | 3 => forS s nR a
  | 4 => dueS s nR a
  | _ => -10001
theorem as0 (hcl : Cl F I s nA nH nR n m H) (hFI : FI N s nA nH nR) {a : Nat} (haA : a < nA) : pm_ev tb xl xs mX4_asset 0 [some (.ref 0), some (.int (nI a)), some (.int 0), none] [] (pm_G F I) = some (some (.int (ap s a 0)), pm_G F I) := by
  have hD := hcl.1
  have hR := hcl.2.1
  have hF4 := hcl.2.2.1
  have hC := hcl.2.2.2
  have hB := ldB hD
  have h6 := hFI.1.1.1.2
  have h8 := hFI.1.1.2.1.2
  have h40 := hFI.1.1.2.2.1.2
  have hnA := hFI.1.1.1.1
  have hnH := hFI.1.1.2.1.1
  have hnR := hFI.1.1.2.2.1.1
  have qA : I 1 3 = nI nA := (rbg3 hR).trans hnA
  have qH : I 1 4 = nI nH := (rbg4 hR).trans hnH
  have qR : I 1 5 = nI nR := (rbg5 hR).trans hnR
  have hrb := hFI.rb
  have hT := hFI.1
  have ho : ¬ out (nI a) nA := in_n haA (by omega)
  have ha : a < 6 := by omega
  simp only [eX4_asset_0, eX4_asset_1, eX4_asset_4, eX4_asset_5, eX4_asset_8, eX4_asset_11, eX4_asset_14, eX4_asset_15, eX4_asset_16, eX4_asset_19, eX4_asset_22, eX4_asset_23, eX4_asset_24, eX4_asset_25, eX4_asset_26_c0, eX4_asset_26_c1, eX4_asset_26_c2, eX4_asset_26_c3, eX4_asset_26_c4, eX4_asset_26_d, eX4_asset_60, eX4_asset_61, eX4_asset_64, eX4_asset_65, eX4_asset_66, eX4_asset_69, eX4_asset_70, eX4_asset_71, eX4_asset_74, eX4_asset_75, eX4_asset_76, eX4_asset_79, eX4_asset_80, eX4_asset_83, eX4_asset_84, eX4_asset_85, eX4_asset_88, eX4_asset_89, eX4_asset_92, eX4_asset_93, eX4_asset_96, one0, and_false, false_and, gk, gr, gi, gs, rv_some, ret_i, ret_n, Option.bind_some, List.cons_append, List.nil_append, z0, z1, zi, zj, i10, i01, true_or, or_true, eq_self, not_false_eq_true, not_true_eq_false, if_true, if_false, ite_not, Decidable.not_not, and_true, true_and, or_false, false_or, Nat.reduceLeDiff, Nat.reduceMod, Nat.reduceEqDiff, ld0 hD, ld1 hD, ld2 hD, ld3 hD, ld4 hD, ld5 hD, ld6 hD, lb0 (ldB hD), lb1 (ldB hD), lb2 (ldB hD), lb3 (ldB hD), lb4 (ldB hD), lb5 (ldB hD), lb6 (ldB hD), lba hB ha, lba2 hB ha, ix6 ha, cl6 ha, rba0 hR haA, rba1 hR haA, rba2 hR haA, X1_hasAsset_ev hB qA (by omega), ho, X1_reportsFor_ev hB hR hT, X1_payablePrices_ev hB hR hT]
theorem as1 (hcl : Cl F I s nA nH nR n m H) (hFI : FI N s nA nH nR) {a : Nat} (haA : a < nA) : pm_ev tb xl xs mX4_asset 0 [some (.ref 0), some (.int (nI a)), some (.int 1), none] [] (pm_G F I) = some (some (.int (ap s a 1)), pm_G F I) := by
  have hD := hcl.1
  have hR := hcl.2.1
  have hF4 := hcl.2.2.1
  have hC := hcl.2.2.2
  have hB := ldB hD
  have h6 := hFI.1.1.1.2
  have h8 := hFI.1.1.2.1.2
  have h40 := hFI.1.1.2.2.1.2
  have hnA := hFI.1.1.1.1
  have hnH := hFI.1.1.2.1.1
  have hnR := hFI.1.1.2.2.1.1
  have qA : I 1 3 = nI nA := (rbg3 hR).trans hnA
  have qH : I 1 4 = nI nH := (rbg4 hR).trans hnH
  have qR : I 1 5 = nI nR := (rbg5 hR).trans hnR
  have hrb := hFI.rb
  have hT := hFI.1
  have ho : ¬ out (nI a) nA := in_n haA (by omega)
  have ha : a < 6 := by omega
  simp only [eX4_asset_0, eX4_asset_1, eX4_asset_4, eX4_asset_5, eX4_asset_8, eX4_asset_11, eX4_asset_14, eX4_asset_15, eX4_asset_16, eX4_asset_19, eX4_asset_22, eX4_asset_23, eX4_asset_24, eX4_asset_25, eX4_asset_26_c0, eX4_asset_26_c1, eX4_asset_26_c2, eX4_asset_26_c3, eX4_asset_26_c4, eX4_asset_26_d, eX4_asset_60, eX4_asset_61, eX4_asset_64, eX4_asset_65, eX4_asset_66, eX4_asset_69, eX4_asset_70, eX4_asset_71, eX4_asset_74, eX4_asset_75, eX4_asset_76, eX4_asset_79, eX4_asset_80, eX4_asset_83, eX4_asset_84, eX4_asset_85, eX4_asset_88, eX4_asset_89, eX4_asset_92, eX4_asset_93, eX4_asset_96, one0, and_false, false_and, gk, gr, gi, gs, rv_some, ret_i, ret_n, Option.bind_some, List.cons_append, List.nil_append, z0, z1, zi, zj, i10, i01, true_or, or_true, eq_self, not_false_eq_true, not_true_eq_false, if_true, if_false, ite_not, Decidable.not_not, and_true, true_and, or_false, false_or, Nat.reduceLeDiff, Nat.reduceMod, Nat.reduceEqDiff, ld0 hD, ld1 hD, ld2 hD, ld3 hD, ld4 hD, ld5 hD, ld6 hD, lb0 (ldB hD), lb1 (ldB hD), lb2 (ldB hD), lb3 (ldB hD), lb4 (ldB hD), lb5 (ldB hD), lb6 (ldB hD), lba hB ha, lba2 hB ha, ix6 ha, cl6 ha, rba0 hR haA, rba1 hR haA, rba2 hR haA, X1_hasAsset_ev hB qA (by omega), ho, X1_reportsFor_ev hB hR hT, X1_payablePrices_ev hB hR hT]
theorem as2 (hcl : Cl F I s nA nH nR n m H) (hFI : FI N s nA nH nR) {a : Nat} (haA : a < nA) : pm_ev tb xl xs mX4_asset 0 [some (.ref 0), some (.int (nI a)), some (.int 2), none] [] (pm_G F I) = some (some (.int (ap s a 2)), pm_G F I) := by
  have hD := hcl.1
  have hR := hcl.2.1
  have hF4 := hcl.2.2.1
  have hC := hcl.2.2.2
  have hB := ldB hD
  have h6 := hFI.1.1.1.2
  have h8 := hFI.1.1.2.1.2
  have h40 := hFI.1.1.2.2.1.2
  have hnA := hFI.1.1.1.1
  have hnH := hFI.1.1.2.1.1
  have hnR := hFI.1.1.2.2.1.1
  have qA : I 1 3 = nI nA := (rbg3 hR).trans hnA
  have qH : I 1 4 = nI nH := (rbg4 hR).trans hnH
  have qR : I 1 5 = nI nR := (rbg5 hR).trans hnR
  have hrb := hFI.rb
  have hT := hFI.1
  have ho : ¬ out (nI a) nA := in_n haA (by omega)
  have ha : a < 6 := by omega
  simp only [eX4_asset_0, eX4_asset_1, eX4_asset_4, eX4_asset_5, eX4_asset_8, eX4_asset_11, eX4_asset_14, eX4_asset_15, eX4_asset_16, eX4_asset_19, eX4_asset_22, eX4_asset_23, eX4_asset_24, eX4_asset_25, eX4_asset_26_c0, eX4_asset_26_c1, eX4_asset_26_c2, eX4_asset_26_c3, eX4_asset_26_c4, eX4_asset_26_d, eX4_asset_60, eX4_asset_61, eX4_asset_64, eX4_asset_65, eX4_asset_66, eX4_asset_69, eX4_asset_70, eX4_asset_71, eX4_asset_74, eX4_asset_75, eX4_asset_76, eX4_asset_79, eX4_asset_80, eX4_asset_83, eX4_asset_84, eX4_asset_85, eX4_asset_88, eX4_asset_89, eX4_asset_92, eX4_asset_93, eX4_asset_96, one0, and_false, false_and, gk, gr, gi, gs, rv_some, ret_i, ret_n, Option.bind_some, List.cons_append, List.nil_append, z0, z1, zi, zj, i10, i01, true_or, or_true, eq_self, not_false_eq_true, not_true_eq_false, if_true, if_false, ite_not, Decidable.not_not, and_true, true_and, or_false, false_or, Nat.reduceLeDiff, Nat.reduceMod, Nat.reduceEqDiff, ld0 hD, ld1 hD, ld2 hD, ld3 hD, ld4 hD, ld5 hD, ld6 hD, lb0 (ldB hD), lb1 (ldB hD), lb2 (ldB hD), lb3 (ldB hD), lb4 (ldB hD), lb5 (ldB hD), lb6 (ldB hD), lba hB ha, lba2 hB ha, ix6 ha, cl6 ha, rba0 hR haA, rba1 hR haA, rba2 hR haA, X1_hasAsset_ev hB qA (by omega), ho, X1_reportsFor_ev hB hR hT, X1_payablePrices_ev hB hR hT]
theorem as3 (hcl : Cl F I s nA nH nR n m H) (hFI : FI N s nA nH nR) {a : Nat} (haA : a < nA) : pm_ev tb xl xs mX4_asset 0 [some (.ref 0), some (.int (nI a)), some (.int 3), none] [] (pm_G F I) = some (some (.int (forS s nR a)), pm_G F I) := by
  have hD := hcl.1
  have hR := hcl.2.1
  have hF4 := hcl.2.2.1
  have hC := hcl.2.2.2
  have hB := ldB hD
  have h6 := hFI.1.1.1.2
  have h8 := hFI.1.1.2.1.2
  have h40 := hFI.1.1.2.2.1.2
  have hnA := hFI.1.1.1.1
  have hnH := hFI.1.1.2.1.1
  have hnR := hFI.1.1.2.2.1.1
  have qA : I 1 3 = nI nA := (rbg3 hR).trans hnA
  have qH : I 1 4 = nI nH := (rbg4 hR).trans hnH
  have qR : I 1 5 = nI nR := (rbg5 hR).trans hnR
  have hrb := hFI.rb
  have hT := hFI.1
  have ho : ¬ out (nI a) nA := in_n haA (by omega)
  have ha : a < 6 := by omega
  simp only [eX4_asset_0, eX4_asset_1, eX4_asset_4, eX4_asset_5, eX4_asset_8, eX4_asset_11, eX4_asset_14, eX4_asset_15, eX4_asset_16, eX4_asset_19, eX4_asset_22, eX4_asset_23, eX4_asset_24, eX4_asset_25, eX4_asset_26_c0, eX4_asset_26_c1, eX4_asset_26_c2, eX4_asset_26_c3, eX4_asset_26_c4, eX4_asset_26_d, eX4_asset_60, eX4_asset_61, eX4_asset_64, eX4_asset_65, eX4_asset_66, eX4_asset_69, eX4_asset_70, eX4_asset_71, eX4_asset_74, eX4_asset_75, eX4_asset_76, eX4_asset_79, eX4_asset_80, eX4_asset_83, eX4_asset_84, eX4_asset_85, eX4_asset_88, eX4_asset_89, eX4_asset_92, eX4_asset_93, eX4_asset_96, one0, and_false, false_and, gk, gr, gi, gs, rv_some, ret_i, ret_n, Option.bind_some, List.cons_append, List.nil_append, z0, z1, zi, zj, i10, i01, true_or, or_true, eq_self, not_false_eq_true, not_true_eq_false, if_true, if_false, ite_not, Decidable.not_not, and_true, true_and, or_false, false_or, Nat.reduceLeDiff, Nat.reduceMod, Nat.reduceEqDiff, ld0 hD, ld1 hD, ld2 hD, ld3 hD, ld4 hD, ld5 hD, ld6 hD, lb0 (ldB hD), lb1 (ldB hD), lb2 (ldB hD), lb3 (ldB hD), lb4 (ldB hD), lb5 (ldB hD), lb6 (ldB hD), lba hB ha, lba2 hB ha, ix6 ha, cl6 ha, rba0 hR haA, rba1 hR haA, rba2 hR haA, X1_hasAsset_ev hB qA (by omega), ho, X1_reportsFor_ev hB hR hT, X1_payablePrices_ev hB hR hT]
  rfl
theorem as4 (hcl : Cl F I s nA nH nR n m H) (hFI : FI N s nA nH nR) {a : Nat} (haA : a < nA) : pm_ev tb xl xs mX4_asset 0 [some (.ref 0), some (.int (nI a)), some (.int 4), none] [] (pm_G F I) = some (some (.int (dueS s nR a)), pm_G F I) := by
  have hD := hcl.1
  have hR := hcl.2.1
  have hF4 := hcl.2.2.1
  have hC := hcl.2.2.2
  have hB := ldB hD
  have h6 := hFI.1.1.1.2
  have h8 := hFI.1.1.2.1.2
  have h40 := hFI.1.1.2.2.1.2
  have hnA := hFI.1.1.1.1
  have hnH := hFI.1.1.2.1.1
  have hnR := hFI.1.1.2.2.1.1
  have qA : I 1 3 = nI nA := (rbg3 hR).trans hnA
  have qH : I 1 4 = nI nH := (rbg4 hR).trans hnH
  have qR : I 1 5 = nI nR := (rbg5 hR).trans hnR
  have hrb := hFI.rb
  have hT := hFI.1
  have ho : ¬ out (nI a) nA := in_n haA (by omega)
  have ha : a < 6 := by omega
  simp only [eX4_asset_0, eX4_asset_1, eX4_asset_4, eX4_asset_5, eX4_asset_8, eX4_asset_11, eX4_asset_14, eX4_asset_15, eX4_asset_16, eX4_asset_19, eX4_asset_22, eX4_asset_23, eX4_asset_24, eX4_asset_25, eX4_asset_26_c0, eX4_asset_26_c1, eX4_asset_26_c2, eX4_asset_26_c3, eX4_asset_26_c4, eX4_asset_26_d, eX4_asset_60, eX4_asset_61, eX4_asset_64, eX4_asset_65, eX4_asset_66, eX4_asset_69, eX4_asset_70, eX4_asset_71, eX4_asset_74, eX4_asset_75, eX4_asset_76, eX4_asset_79, eX4_asset_80, eX4_asset_83, eX4_asset_84, eX4_asset_85, eX4_asset_88, eX4_asset_89, eX4_asset_92, eX4_asset_93, eX4_asset_96, one0, and_false, false_and, gk, gr, gi, gs, rv_some, ret_i, ret_n, Option.bind_some, List.cons_append, List.nil_append, z0, z1, zi, zj, i10, i01, true_or, or_true, eq_self, not_false_eq_true, not_true_eq_false, if_true, if_false, ite_not, Decidable.not_not, and_true, true_and, or_false, false_or, Nat.reduceLeDiff, Nat.reduceMod, Nat.reduceEqDiff, ld0 hD, ld1 hD, ld2 hD, ld3 hD, ld4 hD, ld5 hD, ld6 hD, lb0 (ldB hD), lb1 (ldB hD), lb2 (ldB hD), lb3 (ldB hD), lb4 (ldB hD), lb5 (ldB hD), lb6 (ldB hD), lba hB ha, lba2 hB ha, ix6 ha, cl6 ha, rba0 hR haA, rba1 hR haA, rba2 hR haA, X1_hasAsset_ev hB qA (by omega), ho, X1_reportsFor_ev hB hR hT, X1_payablePrices_ev hB hR hT]
  rfl
theorem as (hcl : Cl F I s nA nH nR n m H) (hFI : FI N s nA nH nR) {a k : Nat} (haA : a < nA) (hk : k < 5) : pm_ev tb xl xs mX4_asset 0 [some (.ref 0), some (.int (nI a)), some (.int (nI k)), none] [] (pm_G F I) = some (some (.int (aV s nR a k)), pm_G F I) := by
  match k, hk with
  | 0, _ => exact as0 hcl hFI haA
  | 1, _ => exact as1 hcl hFI haA
  | 2, _ => exact as2 hcl hFI haA
  | 3, _ => exact as3 hcl hFI haA
  | 4, _ => exact as4 hcl hFI haA
theorem as_out (hcl : Cl F I s nA nH nR n m H) (hFI : FI N s nA nH nR) {v w : Int32} (ho : out v nA) : pm_ev tb xl xs mX4_asset 0 [some (.ref 0), some (.int v), some (.int w), none] [] (pm_G F I) = some (some (.int (-10001)), pm_G F I) := by
  have hD := hcl.1
  have hR := hcl.2.1
  have hF4 := hcl.2.2.1
  have hC := hcl.2.2.2
  have hB := ldB hD
  have h6 := hFI.1.1.1.2
  have h8 := hFI.1.1.2.1.2
  have h40 := hFI.1.1.2.2.1.2
  have hnA := hFI.1.1.1.1
  have hnH := hFI.1.1.2.1.1
  have hnR := hFI.1.1.2.2.1.1
  have qA : I 1 3 = nI nA := (rbg3 hR).trans hnA
  have qH : I 1 4 = nI nH := (rbg4 hR).trans hnH
  have qR : I 1 5 = nI nR := (rbg5 hR).trans hnR
  have hrb := hFI.rb
  simp only [eX4_asset_0, eX4_asset_1, eX4_asset_4, eX4_asset_5, eX4_asset_8, eX4_asset_11, eX4_asset_14, eX4_asset_15, eX4_asset_16, eX4_asset_19, eX4_asset_22, eX4_asset_23, eX4_asset_24, eX4_asset_25, eX4_asset_26_c0, eX4_asset_26_c1, eX4_asset_26_c2, eX4_asset_26_c3, eX4_asset_26_c4, eX4_asset_26_d, eX4_asset_60, eX4_asset_61, eX4_asset_64, eX4_asset_65, eX4_asset_66, eX4_asset_69, eX4_asset_70, eX4_asset_71, eX4_asset_74, eX4_asset_75, eX4_asset_76, eX4_asset_79, eX4_asset_80, eX4_asset_83, eX4_asset_84, eX4_asset_85, eX4_asset_88, eX4_asset_89, eX4_asset_92, eX4_asset_93, eX4_asset_96, one0, and_false, false_and, gk, gr, gi, gs, rv_some, ret_i, ret_n, Option.bind_some, List.cons_append, List.nil_append, z0, z1, zi, zj, i10, i01, true_or, or_true, eq_self, not_false_eq_true, not_true_eq_false, if_true, if_false, ite_not, Decidable.not_not, and_true, true_and, or_false, false_or, Nat.reduceLeDiff, Nat.reduceMod, Nat.reduceEqDiff, ld0 hD, ld1 hD, ld2 hD, ld3 hD, ld4 hD, ld5 hD, ld6 hD, lb0 (ldB hD), lb1 (ldB hD), lb2 (ldB hD), lb3 (ldB hD), lb4 (ldB hD), lb5 (ldB hD), lb6 (ldB hD), X1_hasAsset_ev hB qA (by omega), ho]
def hV (s : St) (nR h : Nat) (k : Nat) : Int32 := match k with
  | 0 => byS s nR h
  | 1 => hp s h 0
  | 2 => stnS s nR h
  | 3 => hp s h 1
  | 4 => hp s h 2
  | 5 => hp s h 3
  | _ => -10001
theorem hu0 (hcl : Cl F I s nA nH nR n m H) (hFI : FI N s nA nH nR) {h : Nat} (hhH : h < nH) : pm_ev tb xl xs mX4_hunter 0 [some (.ref 0), some (.int (nI h)), some (.int 0), none] [] (pm_G F I) = some (some (.int (byS s nR h)), pm_G F I) := by
  have hD := hcl.1
  have hR := hcl.2.1
  have hF4 := hcl.2.2.1
  have hC := hcl.2.2.2
  have hB := ldB hD
  have h6 := hFI.1.1.1.2
  have h8 := hFI.1.1.2.1.2
  have h40 := hFI.1.1.2.2.1.2
  have hnA := hFI.1.1.1.1
  have hnH := hFI.1.1.2.1.1
  have hnR := hFI.1.1.2.2.1.1
  have qA : I 1 3 = nI nA := (rbg3 hR).trans hnA
  have qH : I 1 4 = nI nH := (rbg4 hR).trans hnH
  have qR : I 1 5 = nI nR := (rbg5 hR).trans hnR
  have hrb := hFI.rb
  have hT := hFI.1
  have ho : ¬ out (nI h) nH := in_n hhH (by omega)
  have hh : h < 8 := by omega
  simp only [eX4_hunter_0, eX4_hunter_1, eX4_hunter_4, eX4_hunter_5, eX4_hunter_8, eX4_hunter_11, eX4_hunter_14, eX4_hunter_15, eX4_hunter_16, eX4_hunter_19, eX4_hunter_22, eX4_hunter_23, eX4_hunter_24, eX4_hunter_25, eX4_hunter_26_c0, eX4_hunter_26_c1, eX4_hunter_26_c2, eX4_hunter_26_c3, eX4_hunter_26_c4, eX4_hunter_26_c5, eX4_hunter_26_d, eX4_hunter_64, eX4_hunter_65, eX4_hunter_68, eX4_hunter_69, eX4_hunter_72, eX4_hunter_73, eX4_hunter_74, eX4_hunter_77, eX4_hunter_78, eX4_hunter_79, eX4_hunter_82, eX4_hunter_83, eX4_hunter_86, eX4_hunter_87, eX4_hunter_88, eX4_hunter_91, eX4_hunter_92, eX4_hunter_93, eX4_hunter_96, eX4_hunter_97, eX4_hunter_98, eX4_hunter_101, eX4_hunter_102, eX4_hunter_105, one0, and_false, false_and, gk, gr, gi, gs, rv_some, ret_i, ret_n, Option.bind_some, List.cons_append, List.nil_append, z0, z1, zi, zj, i10, i01, true_or, or_true, eq_self, not_false_eq_true, not_true_eq_false, if_true, if_false, ite_not, Decidable.not_not, and_true, true_and, or_false, false_or, Nat.reduceLeDiff, Nat.reduceMod, Nat.reduceEqDiff, ld0 hD, ld1 hD, ld2 hD, ld3 hD, ld4 hD, ld5 hD, ld6 hD, lb0 (ldB hD), lb1 (ldB hD), lb2 (ldB hD), lb3 (ldB hD), lb4 (ldB hD), lb5 (ldB hD), lb6 (ldB hD), lbh hB hh, lbh2 hB hh, ix8 hh, cl8 hh, rbh0 hR hhH, rbh1 hR hhH, rbh2 hR hhH, rbh3 hR hhH, X1_hasHunter_ev hB qH (by omega), ho, X1_reportsBy_ev hB hR hT, X1_standingOf_ev hB hR hT hhH]
  rfl
theorem hu1 (hcl : Cl F I s nA nH nR n m H) (hFI : FI N s nA nH nR) {h : Nat} (hhH : h < nH) : pm_ev tb xl xs mX4_hunter 0 [some (.ref 0), some (.int (nI h)), some (.int 1), none] [] (pm_G F I) = some (some (.int (hp s h 0)), pm_G F I) := by
  have hD := hcl.1
  have hR := hcl.2.1
  have hF4 := hcl.2.2.1
  have hC := hcl.2.2.2
  have hB := ldB hD
  have h6 := hFI.1.1.1.2
  have h8 := hFI.1.1.2.1.2
  have h40 := hFI.1.1.2.2.1.2
  have hnA := hFI.1.1.1.1
  have hnH := hFI.1.1.2.1.1
  have hnR := hFI.1.1.2.2.1.1
  have qA : I 1 3 = nI nA := (rbg3 hR).trans hnA
  have qH : I 1 4 = nI nH := (rbg4 hR).trans hnH
  have qR : I 1 5 = nI nR := (rbg5 hR).trans hnR
  have hrb := hFI.rb
  have hT := hFI.1
  have ho : ¬ out (nI h) nH := in_n hhH (by omega)
  have hh : h < 8 := by omega
  simp only [eX4_hunter_0, eX4_hunter_1, eX4_hunter_4, eX4_hunter_5, eX4_hunter_8, eX4_hunter_11, eX4_hunter_14, eX4_hunter_15, eX4_hunter_16, eX4_hunter_19, eX4_hunter_22, eX4_hunter_23, eX4_hunter_24, eX4_hunter_25, eX4_hunter_26_c0, eX4_hunter_26_c1, eX4_hunter_26_c2, eX4_hunter_26_c3, eX4_hunter_26_c4, eX4_hunter_26_c5, eX4_hunter_26_d, eX4_hunter_64, eX4_hunter_65, eX4_hunter_68, eX4_hunter_69, eX4_hunter_72, eX4_hunter_73, eX4_hunter_74, eX4_hunter_77, eX4_hunter_78, eX4_hunter_79, eX4_hunter_82, eX4_hunter_83, eX4_hunter_86, eX4_hunter_87, eX4_hunter_88, eX4_hunter_91, eX4_hunter_92, eX4_hunter_93, eX4_hunter_96, eX4_hunter_97, eX4_hunter_98, eX4_hunter_101, eX4_hunter_102, eX4_hunter_105, one0, and_false, false_and, gk, gr, gi, gs, rv_some, ret_i, ret_n, Option.bind_some, List.cons_append, List.nil_append, z0, z1, zi, zj, i10, i01, true_or, or_true, eq_self, not_false_eq_true, not_true_eq_false, if_true, if_false, ite_not, Decidable.not_not, and_true, true_and, or_false, false_or, Nat.reduceLeDiff, Nat.reduceMod, Nat.reduceEqDiff, ld0 hD, ld1 hD, ld2 hD, ld3 hD, ld4 hD, ld5 hD, ld6 hD, lb0 (ldB hD), lb1 (ldB hD), lb2 (ldB hD), lb3 (ldB hD), lb4 (ldB hD), lb5 (ldB hD), lb6 (ldB hD), lbh hB hh, lbh2 hB hh, ix8 hh, cl8 hh, rbh0 hR hhH, rbh1 hR hhH, rbh2 hR hhH, rbh3 hR hhH, X1_hasHunter_ev hB qH (by omega), ho, X1_reportsBy_ev hB hR hT, X1_standingOf_ev hB hR hT hhH]
theorem hu2 (hcl : Cl F I s nA nH nR n m H) (hFI : FI N s nA nH nR) {h : Nat} (hhH : h < nH) : pm_ev tb xl xs mX4_hunter 0 [some (.ref 0), some (.int (nI h)), some (.int 2), none] [] (pm_G F I) = some (some (.int (stnS s nR h)), pm_G F I) := by
  have hD := hcl.1
  have hR := hcl.2.1
  have hF4 := hcl.2.2.1
  have hC := hcl.2.2.2
  have hB := ldB hD
  have h6 := hFI.1.1.1.2
  have h8 := hFI.1.1.2.1.2
  have h40 := hFI.1.1.2.2.1.2
  have hnA := hFI.1.1.1.1
  have hnH := hFI.1.1.2.1.1
  have hnR := hFI.1.1.2.2.1.1
  have qA : I 1 3 = nI nA := (rbg3 hR).trans hnA
  have qH : I 1 4 = nI nH := (rbg4 hR).trans hnH
  have qR : I 1 5 = nI nR := (rbg5 hR).trans hnR
  have hrb := hFI.rb
  have hT := hFI.1
  have ho : ¬ out (nI h) nH := in_n hhH (by omega)
  have hh : h < 8 := by omega
  simp only [eX4_hunter_0, eX4_hunter_1, eX4_hunter_4, eX4_hunter_5, eX4_hunter_8, eX4_hunter_11, eX4_hunter_14, eX4_hunter_15, eX4_hunter_16, eX4_hunter_19, eX4_hunter_22, eX4_hunter_23, eX4_hunter_24, eX4_hunter_25, eX4_hunter_26_c0, eX4_hunter_26_c1, eX4_hunter_26_c2, eX4_hunter_26_c3, eX4_hunter_26_c4, eX4_hunter_26_c5, eX4_hunter_26_d, eX4_hunter_64, eX4_hunter_65, eX4_hunter_68, eX4_hunter_69, eX4_hunter_72, eX4_hunter_73, eX4_hunter_74, eX4_hunter_77, eX4_hunter_78, eX4_hunter_79, eX4_hunter_82, eX4_hunter_83, eX4_hunter_86, eX4_hunter_87, eX4_hunter_88, eX4_hunter_91, eX4_hunter_92, eX4_hunter_93, eX4_hunter_96, eX4_hunter_97, eX4_hunter_98, eX4_hunter_101, eX4_hunter_102, eX4_hunter_105, one0, and_false, false_and, gk, gr, gi, gs, rv_some, ret_i, ret_n, Option.bind_some, List.cons_append, List.nil_append, z0, z1, zi, zj, i10, i01, true_or, or_true, eq_self, not_false_eq_true, not_true_eq_false, if_true, if_false, ite_not, Decidable.not_not, and_true, true_and, or_false, false_or, Nat.reduceLeDiff, Nat.reduceMod, Nat.reduceEqDiff, ld0 hD, ld1 hD, ld2 hD, ld3 hD, ld4 hD, ld5 hD, ld6 hD, lb0 (ldB hD), lb1 (ldB hD), lb2 (ldB hD), lb3 (ldB hD), lb4 (ldB hD), lb5 (ldB hD), lb6 (ldB hD), lbh hB hh, lbh2 hB hh, ix8 hh, cl8 hh, rbh0 hR hhH, rbh1 hR hhH, rbh2 hR hhH, rbh3 hR hhH, X1_hasHunter_ev hB qH (by omega), ho, X1_reportsBy_ev hB hR hT, X1_standingOf_ev hB hR hT hhH]
theorem hu3 (hcl : Cl F I s nA nH nR n m H) (hFI : FI N s nA nH nR) {h : Nat} (hhH : h < nH) : pm_ev tb xl xs mX4_hunter 0 [some (.ref 0), some (.int (nI h)), some (.int 3), none] [] (pm_G F I) = some (some (.int (hp s h 1)), pm_G F I) := by
  have hD := hcl.1
  have hR := hcl.2.1
  have hF4 := hcl.2.2.1
  have hC := hcl.2.2.2
  have hB := ldB hD
  have h6 := hFI.1.1.1.2
  have h8 := hFI.1.1.2.1.2
  have h40 := hFI.1.1.2.2.1.2
  have hnA := hFI.1.1.1.1
  have hnH := hFI.1.1.2.1.1
  have hnR := hFI.1.1.2.2.1.1
  have qA : I 1 3 = nI nA := (rbg3 hR).trans hnA
  have qH : I 1 4 = nI nH := (rbg4 hR).trans hnH
  have qR : I 1 5 = nI nR := (rbg5 hR).trans hnR
  have hrb := hFI.rb
  have hT := hFI.1
  have ho : ¬ out (nI h) nH := in_n hhH (by omega)
  have hh : h < 8 := by omega
  simp only [eX4_hunter_0, eX4_hunter_1, eX4_hunter_4, eX4_hunter_5, eX4_hunter_8, eX4_hunter_11, eX4_hunter_14, eX4_hunter_15, eX4_hunter_16, eX4_hunter_19, eX4_hunter_22, eX4_hunter_23, eX4_hunter_24, eX4_hunter_25, eX4_hunter_26_c0, eX4_hunter_26_c1, eX4_hunter_26_c2, eX4_hunter_26_c3, eX4_hunter_26_c4, eX4_hunter_26_c5, eX4_hunter_26_d, eX4_hunter_64, eX4_hunter_65, eX4_hunter_68, eX4_hunter_69, eX4_hunter_72, eX4_hunter_73, eX4_hunter_74, eX4_hunter_77, eX4_hunter_78, eX4_hunter_79, eX4_hunter_82, eX4_hunter_83, eX4_hunter_86, eX4_hunter_87, eX4_hunter_88, eX4_hunter_91, eX4_hunter_92, eX4_hunter_93, eX4_hunter_96, eX4_hunter_97, eX4_hunter_98, eX4_hunter_101, eX4_hunter_102, eX4_hunter_105, one0, and_false, false_and, gk, gr, gi, gs, rv_some, ret_i, ret_n, Option.bind_some, List.cons_append, List.nil_append, z0, z1, zi, zj, i10, i01, true_or, or_true, eq_self, not_false_eq_true, not_true_eq_false, if_true, if_false, ite_not, Decidable.not_not, and_true, true_and, or_false, false_or, Nat.reduceLeDiff, Nat.reduceMod, Nat.reduceEqDiff, ld0 hD, ld1 hD, ld2 hD, ld3 hD, ld4 hD, ld5 hD, ld6 hD, lb0 (ldB hD), lb1 (ldB hD), lb2 (ldB hD), lb3 (ldB hD), lb4 (ldB hD), lb5 (ldB hD), lb6 (ldB hD), lbh hB hh, lbh2 hB hh, ix8 hh, cl8 hh, rbh0 hR hhH, rbh1 hR hhH, rbh2 hR hhH, rbh3 hR hhH, X1_hasHunter_ev hB qH (by omega), ho, X1_reportsBy_ev hB hR hT, X1_standingOf_ev hB hR hT hhH]
theorem hu4 (hcl : Cl F I s nA nH nR n m H) (hFI : FI N s nA nH nR) {h : Nat} (hhH : h < nH) : pm_ev tb xl xs mX4_hunter 0 [some (.ref 0), some (.int (nI h)), some (.int 4), none] [] (pm_G F I) = some (some (.int (hp s h 2)), pm_G F I) := by
  have hD := hcl.1
  have hR := hcl.2.1
  have hF4 := hcl.2.2.1
  have hC := hcl.2.2.2
  have hB := ldB hD
  have h6 := hFI.1.1.1.2
  have h8 := hFI.1.1.2.1.2
  have h40 := hFI.1.1.2.2.1.2
  have hnA := hFI.1.1.1.1
  have hnH := hFI.1.1.2.1.1
  have hnR := hFI.1.1.2.2.1.1
  have qA : I 1 3 = nI nA := (rbg3 hR).trans hnA
  have qH : I 1 4 = nI nH := (rbg4 hR).trans hnH
  have qR : I 1 5 = nI nR := (rbg5 hR).trans hnR
  have hrb := hFI.rb
  have hT := hFI.1
  have ho : ¬ out (nI h) nH := in_n hhH (by omega)
  have hh : h < 8 := by omega
  simp only [eX4_hunter_0, eX4_hunter_1, eX4_hunter_4, eX4_hunter_5, eX4_hunter_8, eX4_hunter_11, eX4_hunter_14, eX4_hunter_15, eX4_hunter_16, eX4_hunter_19, eX4_hunter_22, eX4_hunter_23, eX4_hunter_24, eX4_hunter_25, eX4_hunter_26_c0, eX4_hunter_26_c1, eX4_hunter_26_c2, eX4_hunter_26_c3, eX4_hunter_26_c4, eX4_hunter_26_c5, eX4_hunter_26_d, eX4_hunter_64, eX4_hunter_65, eX4_hunter_68, eX4_hunter_69, eX4_hunter_72, eX4_hunter_73, eX4_hunter_74, eX4_hunter_77, eX4_hunter_78, eX4_hunter_79, eX4_hunter_82, eX4_hunter_83, eX4_hunter_86, eX4_hunter_87, eX4_hunter_88, eX4_hunter_91, eX4_hunter_92, eX4_hunter_93, eX4_hunter_96, eX4_hunter_97, eX4_hunter_98, eX4_hunter_101, eX4_hunter_102, eX4_hunter_105, one0, and_false, false_and, gk, gr, gi, gs, rv_some, ret_i, ret_n, Option.bind_some, List.cons_append, List.nil_append, z0, z1, zi, zj, i10, i01, true_or, or_true, eq_self, not_false_eq_true, not_true_eq_false, if_true, if_false, ite_not, Decidable.not_not, and_true, true_and, or_false, false_or, Nat.reduceLeDiff, Nat.reduceMod, Nat.reduceEqDiff, ld0 hD, ld1 hD, ld2 hD, ld3 hD, ld4 hD, ld5 hD, ld6 hD, lb0 (ldB hD), lb1 (ldB hD), lb2 (ldB hD), lb3 (ldB hD), lb4 (ldB hD), lb5 (ldB hD), lb6 (ldB hD), lbh hB hh, lbh2 hB hh, ix8 hh, cl8 hh, rbh0 hR hhH, rbh1 hR hhH, rbh2 hR hhH, rbh3 hR hhH, X1_hasHunter_ev hB qH (by omega), ho, X1_reportsBy_ev hB hR hT, X1_standingOf_ev hB hR hT hhH]
theorem hu5 (hcl : Cl F I s nA nH nR n m H) (hFI : FI N s nA nH nR) {h : Nat} (hhH : h < nH) : pm_ev tb xl xs mX4_hunter 0 [some (.ref 0), some (.int (nI h)), some (.int 5), none] [] (pm_G F I) = some (some (.int (hp s h 3)), pm_G F I) := by
  have hD := hcl.1
  have hR := hcl.2.1
  have hF4 := hcl.2.2.1
  have hC := hcl.2.2.2
  have hB := ldB hD
  have h6 := hFI.1.1.1.2
  have h8 := hFI.1.1.2.1.2
  have h40 := hFI.1.1.2.2.1.2
  have hnA := hFI.1.1.1.1
  have hnH := hFI.1.1.2.1.1
  have hnR := hFI.1.1.2.2.1.1
  have qA : I 1 3 = nI nA := (rbg3 hR).trans hnA
  have qH : I 1 4 = nI nH := (rbg4 hR).trans hnH
  have qR : I 1 5 = nI nR := (rbg5 hR).trans hnR
  have hrb := hFI.rb
  have hT := hFI.1
  have ho : ¬ out (nI h) nH := in_n hhH (by omega)
  have hh : h < 8 := by omega
  simp only [eX4_hunter_0, eX4_hunter_1, eX4_hunter_4, eX4_hunter_5, eX4_hunter_8, eX4_hunter_11, eX4_hunter_14, eX4_hunter_15, eX4_hunter_16, eX4_hunter_19, eX4_hunter_22, eX4_hunter_23, eX4_hunter_24, eX4_hunter_25, eX4_hunter_26_c0, eX4_hunter_26_c1, eX4_hunter_26_c2, eX4_hunter_26_c3, eX4_hunter_26_c4, eX4_hunter_26_c5, eX4_hunter_26_d, eX4_hunter_64, eX4_hunter_65, eX4_hunter_68, eX4_hunter_69, eX4_hunter_72, eX4_hunter_73, eX4_hunter_74, eX4_hunter_77, eX4_hunter_78, eX4_hunter_79, eX4_hunter_82, eX4_hunter_83, eX4_hunter_86, eX4_hunter_87, eX4_hunter_88, eX4_hunter_91, eX4_hunter_92, eX4_hunter_93, eX4_hunter_96, eX4_hunter_97, eX4_hunter_98, eX4_hunter_101, eX4_hunter_102, eX4_hunter_105, one0, and_false, false_and, gk, gr, gi, gs, rv_some, ret_i, ret_n, Option.bind_some, List.cons_append, List.nil_append, z0, z1, zi, zj, i10, i01, true_or, or_true, eq_self, not_false_eq_true, not_true_eq_false, if_true, if_false, ite_not, Decidable.not_not, and_true, true_and, or_false, false_or, Nat.reduceLeDiff, Nat.reduceMod, Nat.reduceEqDiff, ld0 hD, ld1 hD, ld2 hD, ld3 hD, ld4 hD, ld5 hD, ld6 hD, lb0 (ldB hD), lb1 (ldB hD), lb2 (ldB hD), lb3 (ldB hD), lb4 (ldB hD), lb5 (ldB hD), lb6 (ldB hD), lbh hB hh, lbh2 hB hh, ix8 hh, cl8 hh, rbh0 hR hhH, rbh1 hR hhH, rbh2 hR hhH, rbh3 hR hhH, X1_hasHunter_ev hB qH (by omega), ho, X1_reportsBy_ev hB hR hT, X1_standingOf_ev hB hR hT hhH]
theorem hu (hcl : Cl F I s nA nH nR n m H) (hFI : FI N s nA nH nR) {h k : Nat} (hhH : h < nH) (hk : k < 6) : pm_ev tb xl xs mX4_hunter 0 [some (.ref 0), some (.int (nI h)), some (.int (nI k)), none] [] (pm_G F I) = some (some (.int (hV s nR h k)), pm_G F I) := by
  match k, hk with
  | 0, _ => exact hu0 hcl hFI hhH
  | 1, _ => exact hu1 hcl hFI hhH
  | 2, _ => exact hu2 hcl hFI hhH
  | 3, _ => exact hu3 hcl hFI hhH
  | 4, _ => exact hu4 hcl hFI hhH
  | 5, _ => exact hu5 hcl hFI hhH
theorem hu_out (hcl : Cl F I s nA nH nR n m H) (hFI : FI N s nA nH nR) {v w : Int32} (ho : out v nH) : pm_ev tb xl xs mX4_hunter 0 [some (.ref 0), some (.int v), some (.int w), none] [] (pm_G F I) = some (some (.int (-10001)), pm_G F I) := by
  have hD := hcl.1
  have hR := hcl.2.1
  have hF4 := hcl.2.2.1
  have hC := hcl.2.2.2
  have hB := ldB hD
  have h6 := hFI.1.1.1.2
  have h8 := hFI.1.1.2.1.2
  have h40 := hFI.1.1.2.2.1.2
  have hnA := hFI.1.1.1.1
  have hnH := hFI.1.1.2.1.1
  have hnR := hFI.1.1.2.2.1.1
  have qA : I 1 3 = nI nA := (rbg3 hR).trans hnA
  have qH : I 1 4 = nI nH := (rbg4 hR).trans hnH
  have qR : I 1 5 = nI nR := (rbg5 hR).trans hnR
  have hrb := hFI.rb
  simp only [eX4_hunter_0, eX4_hunter_1, eX4_hunter_4, eX4_hunter_5, eX4_hunter_8, eX4_hunter_11, eX4_hunter_14, eX4_hunter_15, eX4_hunter_16, eX4_hunter_19, eX4_hunter_22, eX4_hunter_23, eX4_hunter_24, eX4_hunter_25, eX4_hunter_26_c0, eX4_hunter_26_c1, eX4_hunter_26_c2, eX4_hunter_26_c3, eX4_hunter_26_c4, eX4_hunter_26_c5, eX4_hunter_26_d, eX4_hunter_64, eX4_hunter_65, eX4_hunter_68, eX4_hunter_69, eX4_hunter_72, eX4_hunter_73, eX4_hunter_74, eX4_hunter_77, eX4_hunter_78, eX4_hunter_79, eX4_hunter_82, eX4_hunter_83, eX4_hunter_86, eX4_hunter_87, eX4_hunter_88, eX4_hunter_91, eX4_hunter_92, eX4_hunter_93, eX4_hunter_96, eX4_hunter_97, eX4_hunter_98, eX4_hunter_101, eX4_hunter_102, eX4_hunter_105, one0, and_false, false_and, gk, gr, gi, gs, rv_some, ret_i, ret_n, Option.bind_some, List.cons_append, List.nil_append, z0, z1, zi, zj, i10, i01, true_or, or_true, eq_self, not_false_eq_true, not_true_eq_false, if_true, if_false, ite_not, Decidable.not_not, and_true, true_and, or_false, false_or, Nat.reduceLeDiff, Nat.reduceMod, Nat.reduceEqDiff, ld0 hD, ld1 hD, ld2 hD, ld3 hD, ld4 hD, ld5 hD, ld6 hD, lb0 (ldB hD), lb1 (ldB hD), lb2 (ldB hD), lb3 (ldB hD), lb4 (ldB hD), lb5 (ldB hD), lb6 (ldB hD), X1_hasHunter_ev hB qH (by omega), ho]
def rV (s : St) (nR r : Nat) (k : Nat) : Int32 := match k with
  | 0 => rp s r 0
  | 1 => rp s r 1
  | 2 => rp s r 2
  | 3 => rp s r 3
  | 4 => svS s r
  | 5 => rp s r 5
  | 6 => undS s nR r
  | 7 => prV s r
  | 8 => rp s r 6
  | 9 => rp s r 8
  | 10 => onS (rp s r 10)
  | 11 => onS (rp s r 11)
  | 12 => rp s r 9
  | _ => -10001
theorem re0 (hcl : Cl F I s nA nH nR n m H) (hFI : FI N s nA nH nR) {r : Nat} (hrR : r < nR) : pm_ev tb xl xs mX4_reportOf 0 [some (.ref 0), some (.int (nI r)), some (.int 0), none] [] (pm_G F I) = some (some (.int (rp s r 0)), pm_G F I) := by
  have hD := hcl.1
  have hR := hcl.2.1
  have hF4 := hcl.2.2.1
  have hC := hcl.2.2.2
  have hB := ldB hD
  have h6 := hFI.1.1.1.2
  have h8 := hFI.1.1.2.1.2
  have h40 := hFI.1.1.2.2.1.2
  have hnA := hFI.1.1.1.1
  have hnH := hFI.1.1.2.1.1
  have hnR := hFI.1.1.2.2.1.1
  have qA : I 1 3 = nI nA := (rbg3 hR).trans hnA
  have qH : I 1 4 = nI nH := (rbg4 hR).trans hnH
  have qR : I 1 5 = nI nR := (rbg5 hR).trans hnR
  have hrb := hFI.rb
  have hT := hFI.1
  have ho : ¬ out (nI r) nR := in_n hrR (by omega)
  have hr : r < 40 := by omega
  obtain ⟨⟨q3, -, -, -⟩, ⟨hz, q10, q11⟩, -⟩ := hT.2 r hrR
  simp only [eX4_reportOf_0, eX4_reportOf_1, eX4_reportOf_4, eX4_reportOf_5, eX4_reportOf_8, eX4_reportOf_11, eX4_reportOf_14, eX4_reportOf_15, eX4_reportOf_16, eX4_reportOf_19, eX4_reportOf_22, eX4_reportOf_23, eX4_reportOf_24, eX4_reportOf_25, eX4_reportOf_26_c0, eX4_reportOf_26_c1, eX4_reportOf_26_c2, eX4_reportOf_26_c3, eX4_reportOf_26_c4, eX4_reportOf_26_c5, eX4_reportOf_26_c6, eX4_reportOf_26_c7, eX4_reportOf_26_c8, eX4_reportOf_26_c9, eX4_reportOf_26_c10, eX4_reportOf_26_c11, eX4_reportOf_26_c12, eX4_reportOf_26_d, eX4_reportOf_92, eX4_reportOf_93, eX4_reportOf_96, eX4_reportOf_97, eX4_reportOf_98, eX4_reportOf_101, eX4_reportOf_102, eX4_reportOf_103, eX4_reportOf_106, eX4_reportOf_107, eX4_reportOf_108, eX4_reportOf_111, eX4_reportOf_112, eX4_reportOf_113, eX4_reportOf_116, eX4_reportOf_119, eX4_reportOf_120, eX4_reportOf_123, eX4_reportOf_126, eX4_reportOf_129, eX4_reportOf_130, eX4_reportOf_131, eX4_reportOf_134, eX4_reportOf_135, eX4_reportOf_136, eX4_reportOf_139, eX4_reportOf_140, eX4_reportOf_143, eX4_reportOf_144, eX4_reportOf_145, eX4_reportOf_148, eX4_reportOf_151, eX4_reportOf_152, eX4_reportOf_155, eX4_reportOf_156, eX4_reportOf_159, eX4_reportOf_162, eX4_reportOf_165, eX4_reportOf_166, eX4_reportOf_167, eX4_reportOf_170, eX4_reportOf_171, eX4_reportOf_172, eX4_reportOf_175, eX4_reportOf_176, eX4_reportOf_177, eX4_reportOf_180, eX4_reportOf_183, eX4_reportOf_184, eX4_reportOf_185, eX4_reportOf_188, eX4_reportOf_191, eX4_reportOf_192, eX4_reportOf_193, eX4_reportOf_196, eX4_reportOf_199, eX4_reportOf_200, eX4_reportOf_203, eX4_reportOf_204, eX4_reportOf_205, eX4_reportOf_208, one0, and_false, false_and, gk, gr, gi, gs, rv_some, ret_i, ret_n, Option.bind_some, List.cons_append, List.nil_append, z0, z1, zi, zj, i10, i01, true_or, or_true, eq_self, not_false_eq_true, not_true_eq_false, if_true, if_false, ite_not, Decidable.not_not, and_true, true_and, or_false, false_or, Nat.reduceLeDiff, Nat.reduceMod, Nat.reduceEqDiff, ld0 hD, ld1 hD, ld2 hD, ld3 hD, ld4 hD, ld5 hD, ld6 hD, lb0 (ldB hD), lb1 (ldB hD), lb2 (ldB hD), lb3 (ldB hD), lb4 (ldB hD), lb5 (ldB hD), lb6 (ldB hD), lbr hB hr, lbr2 hB hr, ix40 hr, cl40 hr, rbr0 hR hrR, rbr1 hR hrR, rbr2 hR hrR, rbr3 hR hrR, rbr4 hR hrR, rbr5 hR hrR, rbr6 hR hrR, rbr7 hR hrR, rbr8 hR hrR, rbr9 hR hrR, rbr10 hR hrR, rbr11 hR hrR, X1_hasReport_ev hB qR (by omega), ho, X3_hasSeverity_ev hB hr, X1_priceOf_ev hB hR hT.1 hrR, X1_foldedReports_ev hB hR hT (show r < 1000 by omega), J6_bitCount_ev, bc_on q10, bc_on q11, hz]
theorem re1 (hcl : Cl F I s nA nH nR n m H) (hFI : FI N s nA nH nR) {r : Nat} (hrR : r < nR) : pm_ev tb xl xs mX4_reportOf 0 [some (.ref 0), some (.int (nI r)), some (.int 1), none] [] (pm_G F I) = some (some (.int (rp s r 1)), pm_G F I) := by
  have hD := hcl.1
  have hR := hcl.2.1
  have hF4 := hcl.2.2.1
  have hC := hcl.2.2.2
  have hB := ldB hD
  have h6 := hFI.1.1.1.2
  have h8 := hFI.1.1.2.1.2
  have h40 := hFI.1.1.2.2.1.2
  have hnA := hFI.1.1.1.1
  have hnH := hFI.1.1.2.1.1
  have hnR := hFI.1.1.2.2.1.1
  have qA : I 1 3 = nI nA := (rbg3 hR).trans hnA
  have qH : I 1 4 = nI nH := (rbg4 hR).trans hnH
  have qR : I 1 5 = nI nR := (rbg5 hR).trans hnR
  have hrb := hFI.rb
  have hT := hFI.1
  have ho : ¬ out (nI r) nR := in_n hrR (by omega)
  have hr : r < 40 := by omega
  obtain ⟨⟨q3, -, -, -⟩, ⟨hz, q10, q11⟩, -⟩ := hT.2 r hrR
  simp only [eX4_reportOf_0, eX4_reportOf_1, eX4_reportOf_4, eX4_reportOf_5, eX4_reportOf_8, eX4_reportOf_11, eX4_reportOf_14, eX4_reportOf_15, eX4_reportOf_16, eX4_reportOf_19, eX4_reportOf_22, eX4_reportOf_23, eX4_reportOf_24, eX4_reportOf_25, eX4_reportOf_26_c0, eX4_reportOf_26_c1, eX4_reportOf_26_c2, eX4_reportOf_26_c3, eX4_reportOf_26_c4, eX4_reportOf_26_c5, eX4_reportOf_26_c6, eX4_reportOf_26_c7, eX4_reportOf_26_c8, eX4_reportOf_26_c9, eX4_reportOf_26_c10, eX4_reportOf_26_c11, eX4_reportOf_26_c12, eX4_reportOf_26_d, eX4_reportOf_92, eX4_reportOf_93, eX4_reportOf_96, eX4_reportOf_97, eX4_reportOf_98, eX4_reportOf_101, eX4_reportOf_102, eX4_reportOf_103, eX4_reportOf_106, eX4_reportOf_107, eX4_reportOf_108, eX4_reportOf_111, eX4_reportOf_112, eX4_reportOf_113, eX4_reportOf_116, eX4_reportOf_119, eX4_reportOf_120, eX4_reportOf_123, eX4_reportOf_126, eX4_reportOf_129, eX4_reportOf_130, eX4_reportOf_131, eX4_reportOf_134, eX4_reportOf_135, eX4_reportOf_136, eX4_reportOf_139, eX4_reportOf_140, eX4_reportOf_143, eX4_reportOf_144, eX4_reportOf_145, eX4_reportOf_148, eX4_reportOf_151, eX4_reportOf_152, eX4_reportOf_155, eX4_reportOf_156, eX4_reportOf_159, eX4_reportOf_162, eX4_reportOf_165, eX4_reportOf_166, eX4_reportOf_167, eX4_reportOf_170, eX4_reportOf_171, eX4_reportOf_172, eX4_reportOf_175, eX4_reportOf_176, eX4_reportOf_177, eX4_reportOf_180, eX4_reportOf_183, eX4_reportOf_184, eX4_reportOf_185, eX4_reportOf_188, eX4_reportOf_191, eX4_reportOf_192, eX4_reportOf_193, eX4_reportOf_196, eX4_reportOf_199, eX4_reportOf_200, eX4_reportOf_203, eX4_reportOf_204, eX4_reportOf_205, eX4_reportOf_208, one0, and_false, false_and, gk, gr, gi, gs, rv_some, ret_i, ret_n, Option.bind_some, List.cons_append, List.nil_append, z0, z1, zi, zj, i10, i01, true_or, or_true, eq_self, not_false_eq_true, not_true_eq_false, if_true, if_false, ite_not, Decidable.not_not, and_true, true_and, or_false, false_or, Nat.reduceLeDiff, Nat.reduceMod, Nat.reduceEqDiff, ld0 hD, ld1 hD, ld2 hD, ld3 hD, ld4 hD, ld5 hD, ld6 hD, lb0 (ldB hD), lb1 (ldB hD), lb2 (ldB hD), lb3 (ldB hD), lb4 (ldB hD), lb5 (ldB hD), lb6 (ldB hD), lbr hB hr, lbr2 hB hr, ix40 hr, cl40 hr, rbr0 hR hrR, rbr1 hR hrR, rbr2 hR hrR, rbr3 hR hrR, rbr4 hR hrR, rbr5 hR hrR, rbr6 hR hrR, rbr7 hR hrR, rbr8 hR hrR, rbr9 hR hrR, rbr10 hR hrR, rbr11 hR hrR, X1_hasReport_ev hB qR (by omega), ho, X3_hasSeverity_ev hB hr, X1_priceOf_ev hB hR hT.1 hrR, X1_foldedReports_ev hB hR hT (show r < 1000 by omega), J6_bitCount_ev, bc_on q10, bc_on q11, hz]
theorem re2 (hcl : Cl F I s nA nH nR n m H) (hFI : FI N s nA nH nR) {r : Nat} (hrR : r < nR) : pm_ev tb xl xs mX4_reportOf 0 [some (.ref 0), some (.int (nI r)), some (.int 2), none] [] (pm_G F I) = some (some (.int (rp s r 2)), pm_G F I) := by
  have hD := hcl.1
  have hR := hcl.2.1
  have hF4 := hcl.2.2.1
  have hC := hcl.2.2.2
  have hB := ldB hD
  have h6 := hFI.1.1.1.2
  have h8 := hFI.1.1.2.1.2
  have h40 := hFI.1.1.2.2.1.2
  have hnA := hFI.1.1.1.1
  have hnH := hFI.1.1.2.1.1
  have hnR := hFI.1.1.2.2.1.1
  have qA : I 1 3 = nI nA := (rbg3 hR).trans hnA
  have qH : I 1 4 = nI nH := (rbg4 hR).trans hnH
  have qR : I 1 5 = nI nR := (rbg5 hR).trans hnR
  have hrb := hFI.rb
  have hT := hFI.1
  have ho : ¬ out (nI r) nR := in_n hrR (by omega)
  have hr : r < 40 := by omega
  obtain ⟨⟨q3, -, -, -⟩, ⟨hz, q10, q11⟩, -⟩ := hT.2 r hrR
  simp only [eX4_reportOf_0, eX4_reportOf_1, eX4_reportOf_4, eX4_reportOf_5, eX4_reportOf_8, eX4_reportOf_11, eX4_reportOf_14, eX4_reportOf_15, eX4_reportOf_16, eX4_reportOf_19, eX4_reportOf_22, eX4_reportOf_23, eX4_reportOf_24, eX4_reportOf_25, eX4_reportOf_26_c0, eX4_reportOf_26_c1, eX4_reportOf_26_c2, eX4_reportOf_26_c3, eX4_reportOf_26_c4, eX4_reportOf_26_c5, eX4_reportOf_26_c6, eX4_reportOf_26_c7, eX4_reportOf_26_c8, eX4_reportOf_26_c9, eX4_reportOf_26_c10, eX4_reportOf_26_c11, eX4_reportOf_26_c12, eX4_reportOf_26_d, eX4_reportOf_92, eX4_reportOf_93, eX4_reportOf_96, eX4_reportOf_97, eX4_reportOf_98, eX4_reportOf_101, eX4_reportOf_102, eX4_reportOf_103, eX4_reportOf_106, eX4_reportOf_107, eX4_reportOf_108, eX4_reportOf_111, eX4_reportOf_112, eX4_reportOf_113, eX4_reportOf_116, eX4_reportOf_119, eX4_reportOf_120, eX4_reportOf_123, eX4_reportOf_126, eX4_reportOf_129, eX4_reportOf_130, eX4_reportOf_131, eX4_reportOf_134, eX4_reportOf_135, eX4_reportOf_136, eX4_reportOf_139, eX4_reportOf_140, eX4_reportOf_143, eX4_reportOf_144, eX4_reportOf_145, eX4_reportOf_148, eX4_reportOf_151, eX4_reportOf_152, eX4_reportOf_155, eX4_reportOf_156, eX4_reportOf_159, eX4_reportOf_162, eX4_reportOf_165, eX4_reportOf_166, eX4_reportOf_167, eX4_reportOf_170, eX4_reportOf_171, eX4_reportOf_172, eX4_reportOf_175, eX4_reportOf_176, eX4_reportOf_177, eX4_reportOf_180, eX4_reportOf_183, eX4_reportOf_184, eX4_reportOf_185, eX4_reportOf_188, eX4_reportOf_191, eX4_reportOf_192, eX4_reportOf_193, eX4_reportOf_196, eX4_reportOf_199, eX4_reportOf_200, eX4_reportOf_203, eX4_reportOf_204, eX4_reportOf_205, eX4_reportOf_208, one0, and_false, false_and, gk, gr, gi, gs, rv_some, ret_i, ret_n, Option.bind_some, List.cons_append, List.nil_append, z0, z1, zi, zj, i10, i01, true_or, or_true, eq_self, not_false_eq_true, not_true_eq_false, if_true, if_false, ite_not, Decidable.not_not, and_true, true_and, or_false, false_or, Nat.reduceLeDiff, Nat.reduceMod, Nat.reduceEqDiff, ld0 hD, ld1 hD, ld2 hD, ld3 hD, ld4 hD, ld5 hD, ld6 hD, lb0 (ldB hD), lb1 (ldB hD), lb2 (ldB hD), lb3 (ldB hD), lb4 (ldB hD), lb5 (ldB hD), lb6 (ldB hD), lbr hB hr, lbr2 hB hr, ix40 hr, cl40 hr, rbr0 hR hrR, rbr1 hR hrR, rbr2 hR hrR, rbr3 hR hrR, rbr4 hR hrR, rbr5 hR hrR, rbr6 hR hrR, rbr7 hR hrR, rbr8 hR hrR, rbr9 hR hrR, rbr10 hR hrR, rbr11 hR hrR, X1_hasReport_ev hB qR (by omega), ho, X3_hasSeverity_ev hB hr, X1_priceOf_ev hB hR hT.1 hrR, X1_foldedReports_ev hB hR hT (show r < 1000 by omega), J6_bitCount_ev, bc_on q10, bc_on q11, hz]
theorem re3 (hcl : Cl F I s nA nH nR n m H) (hFI : FI N s nA nH nR) {r : Nat} (hrR : r < nR) : pm_ev tb xl xs mX4_reportOf 0 [some (.ref 0), some (.int (nI r)), some (.int 3), none] [] (pm_G F I) = some (some (.int (rp s r 3)), pm_G F I) := by
  have hD := hcl.1
  have hR := hcl.2.1
  have hF4 := hcl.2.2.1
  have hC := hcl.2.2.2
  have hB := ldB hD
  have h6 := hFI.1.1.1.2
  have h8 := hFI.1.1.2.1.2
  have h40 := hFI.1.1.2.2.1.2
  have hnA := hFI.1.1.1.1
  have hnH := hFI.1.1.2.1.1
  have hnR := hFI.1.1.2.2.1.1
  have qA : I 1 3 = nI nA := (rbg3 hR).trans hnA
  have qH : I 1 4 = nI nH := (rbg4 hR).trans hnH
  have qR : I 1 5 = nI nR := (rbg5 hR).trans hnR
  have hrb := hFI.rb
  have hT := hFI.1
  have ho : ¬ out (nI r) nR := in_n hrR (by omega)
  have hr : r < 40 := by omega
  obtain ⟨⟨q3, -, -, -⟩, ⟨hz, q10, q11⟩, -⟩ := hT.2 r hrR
  simp only [eX4_reportOf_0, eX4_reportOf_1, eX4_reportOf_4, eX4_reportOf_5, eX4_reportOf_8, eX4_reportOf_11, eX4_reportOf_14, eX4_reportOf_15, eX4_reportOf_16, eX4_reportOf_19, eX4_reportOf_22, eX4_reportOf_23, eX4_reportOf_24, eX4_reportOf_25, eX4_reportOf_26_c0, eX4_reportOf_26_c1, eX4_reportOf_26_c2, eX4_reportOf_26_c3, eX4_reportOf_26_c4, eX4_reportOf_26_c5, eX4_reportOf_26_c6, eX4_reportOf_26_c7, eX4_reportOf_26_c8, eX4_reportOf_26_c9, eX4_reportOf_26_c10, eX4_reportOf_26_c11, eX4_reportOf_26_c12, eX4_reportOf_26_d, eX4_reportOf_92, eX4_reportOf_93, eX4_reportOf_96, eX4_reportOf_97, eX4_reportOf_98, eX4_reportOf_101, eX4_reportOf_102, eX4_reportOf_103, eX4_reportOf_106, eX4_reportOf_107, eX4_reportOf_108, eX4_reportOf_111, eX4_reportOf_112, eX4_reportOf_113, eX4_reportOf_116, eX4_reportOf_119, eX4_reportOf_120, eX4_reportOf_123, eX4_reportOf_126, eX4_reportOf_129, eX4_reportOf_130, eX4_reportOf_131, eX4_reportOf_134, eX4_reportOf_135, eX4_reportOf_136, eX4_reportOf_139, eX4_reportOf_140, eX4_reportOf_143, eX4_reportOf_144, eX4_reportOf_145, eX4_reportOf_148, eX4_reportOf_151, eX4_reportOf_152, eX4_reportOf_155, eX4_reportOf_156, eX4_reportOf_159, eX4_reportOf_162, eX4_reportOf_165, eX4_reportOf_166, eX4_reportOf_167, eX4_reportOf_170, eX4_reportOf_171, eX4_reportOf_172, eX4_reportOf_175, eX4_reportOf_176, eX4_reportOf_177, eX4_reportOf_180, eX4_reportOf_183, eX4_reportOf_184, eX4_reportOf_185, eX4_reportOf_188, eX4_reportOf_191, eX4_reportOf_192, eX4_reportOf_193, eX4_reportOf_196, eX4_reportOf_199, eX4_reportOf_200, eX4_reportOf_203, eX4_reportOf_204, eX4_reportOf_205, eX4_reportOf_208, one0, and_false, false_and, gk, gr, gi, gs, rv_some, ret_i, ret_n, Option.bind_some, List.cons_append, List.nil_append, z0, z1, zi, zj, i10, i01, true_or, or_true, eq_self, not_false_eq_true, not_true_eq_false, if_true, if_false, ite_not, Decidable.not_not, and_true, true_and, or_false, false_or, Nat.reduceLeDiff, Nat.reduceMod, Nat.reduceEqDiff, ld0 hD, ld1 hD, ld2 hD, ld3 hD, ld4 hD, ld5 hD, ld6 hD, lb0 (ldB hD), lb1 (ldB hD), lb2 (ldB hD), lb3 (ldB hD), lb4 (ldB hD), lb5 (ldB hD), lb6 (ldB hD), lbr hB hr, lbr2 hB hr, ix40 hr, cl40 hr, rbr0 hR hrR, rbr1 hR hrR, rbr2 hR hrR, rbr3 hR hrR, rbr4 hR hrR, rbr5 hR hrR, rbr6 hR hrR, rbr7 hR hrR, rbr8 hR hrR, rbr9 hR hrR, rbr10 hR hrR, rbr11 hR hrR, X1_hasReport_ev hB qR (by omega), ho, X3_hasSeverity_ev hB hr, X1_priceOf_ev hB hR hT.1 hrR, X1_foldedReports_ev hB hR hT (show r < 1000 by omega), J6_bitCount_ev, bc_on q10, bc_on q11, hz]
theorem re4 (hcl : Cl F I s nA nH nR n m H) (hFI : FI N s nA nH nR) {r : Nat} (hrR : r < nR) : pm_ev tb xl xs mX4_reportOf 0 [some (.ref 0), some (.int (nI r)), some (.int 4), none] [] (pm_G F I) = some (some (.int (svS s r)), pm_G F I) := by
  have hD := hcl.1
  have hR := hcl.2.1
  have hF4 := hcl.2.2.1
  have hC := hcl.2.2.2
  have hB := ldB hD
  have h6 := hFI.1.1.1.2
  have h8 := hFI.1.1.2.1.2
  have h40 := hFI.1.1.2.2.1.2
  have hnA := hFI.1.1.1.1
  have hnH := hFI.1.1.2.1.1
  have hnR := hFI.1.1.2.2.1.1
  have qA : I 1 3 = nI nA := (rbg3 hR).trans hnA
  have qH : I 1 4 = nI nH := (rbg4 hR).trans hnH
  have qR : I 1 5 = nI nR := (rbg5 hR).trans hnR
  have hrb := hFI.rb
  have hT := hFI.1
  have ho : ¬ out (nI r) nR := in_n hrR (by omega)
  have hr : r < 40 := by omega
  obtain ⟨⟨q3, -, -, -⟩, ⟨hz, q10, q11⟩, -⟩ := hT.2 r hrR
  unfold svS
  by_cases hg : rp s r 3 = 1 ∨ rp s r 3 = 2 ∨ rp s r 3 = 3
  · simp only [eX4_reportOf_0, eX4_reportOf_1, eX4_reportOf_4, eX4_reportOf_5, eX4_reportOf_8, eX4_reportOf_11, eX4_reportOf_14, eX4_reportOf_15, eX4_reportOf_16, eX4_reportOf_19, eX4_reportOf_22, eX4_reportOf_23, eX4_reportOf_24, eX4_reportOf_25, eX4_reportOf_26_c0, eX4_reportOf_26_c1, eX4_reportOf_26_c2, eX4_reportOf_26_c3, eX4_reportOf_26_c4, eX4_reportOf_26_c5, eX4_reportOf_26_c6, eX4_reportOf_26_c7, eX4_reportOf_26_c8, eX4_reportOf_26_c9, eX4_reportOf_26_c10, eX4_reportOf_26_c11, eX4_reportOf_26_c12, eX4_reportOf_26_d, eX4_reportOf_92, eX4_reportOf_93, eX4_reportOf_96, eX4_reportOf_97, eX4_reportOf_98, eX4_reportOf_101, eX4_reportOf_102, eX4_reportOf_103, eX4_reportOf_106, eX4_reportOf_107, eX4_reportOf_108, eX4_reportOf_111, eX4_reportOf_112, eX4_reportOf_113, eX4_reportOf_116, eX4_reportOf_119, eX4_reportOf_120, eX4_reportOf_123, eX4_reportOf_126, eX4_reportOf_129, eX4_reportOf_130, eX4_reportOf_131, eX4_reportOf_134, eX4_reportOf_135, eX4_reportOf_136, eX4_reportOf_139, eX4_reportOf_140, eX4_reportOf_143, eX4_reportOf_144, eX4_reportOf_145, eX4_reportOf_148, eX4_reportOf_151, eX4_reportOf_152, eX4_reportOf_155, eX4_reportOf_156, eX4_reportOf_159, eX4_reportOf_162, eX4_reportOf_165, eX4_reportOf_166, eX4_reportOf_167, eX4_reportOf_170, eX4_reportOf_171, eX4_reportOf_172, eX4_reportOf_175, eX4_reportOf_176, eX4_reportOf_177, eX4_reportOf_180, eX4_reportOf_183, eX4_reportOf_184, eX4_reportOf_185, eX4_reportOf_188, eX4_reportOf_191, eX4_reportOf_192, eX4_reportOf_193, eX4_reportOf_196, eX4_reportOf_199, eX4_reportOf_200, eX4_reportOf_203, eX4_reportOf_204, eX4_reportOf_205, eX4_reportOf_208, one0, and_false, false_and, gk, gr, gi, gs, rv_some, ret_i, ret_n, Option.bind_some, List.cons_append, List.nil_append, z0, z1, zi, zj, i10, i01, true_or, or_true, eq_self, not_false_eq_true, not_true_eq_false, if_true, if_false, ite_not, Decidable.not_not, and_true, true_and, or_false, false_or, Nat.reduceLeDiff, Nat.reduceMod, Nat.reduceEqDiff, ld0 hD, ld1 hD, ld2 hD, ld3 hD, ld4 hD, ld5 hD, ld6 hD, lb0 (ldB hD), lb1 (ldB hD), lb2 (ldB hD), lb3 (ldB hD), lb4 (ldB hD), lb5 (ldB hD), lb6 (ldB hD), lbr hB hr, lbr2 hB hr, ix40 hr, cl40 hr, rbr0 hR hrR, rbr1 hR hrR, rbr2 hR hrR, rbr3 hR hrR, rbr4 hR hrR, rbr5 hR hrR, rbr6 hR hrR, rbr7 hR hrR, rbr8 hR hrR, rbr9 hR hrR, rbr10 hR hrR, rbr11 hR hrR, X1_hasReport_ev hB qR (by omega), ho, X3_hasSeverity_ev hB hr, X1_priceOf_ev hB hR hT.1 hrR, X1_foldedReports_ev hB hR hT (show r < 1000 by omega), J6_bitCount_ev, bc_on q10, bc_on q11, hz, hg]
  · simp only [eX4_reportOf_0, eX4_reportOf_1, eX4_reportOf_4, eX4_reportOf_5, eX4_reportOf_8, eX4_reportOf_11, eX4_reportOf_14, eX4_reportOf_15, eX4_reportOf_16, eX4_reportOf_19, eX4_reportOf_22, eX4_reportOf_23, eX4_reportOf_24, eX4_reportOf_25, eX4_reportOf_26_c0, eX4_reportOf_26_c1, eX4_reportOf_26_c2, eX4_reportOf_26_c3, eX4_reportOf_26_c4, eX4_reportOf_26_c5, eX4_reportOf_26_c6, eX4_reportOf_26_c7, eX4_reportOf_26_c8, eX4_reportOf_26_c9, eX4_reportOf_26_c10, eX4_reportOf_26_c11, eX4_reportOf_26_c12, eX4_reportOf_26_d, eX4_reportOf_92, eX4_reportOf_93, eX4_reportOf_96, eX4_reportOf_97, eX4_reportOf_98, eX4_reportOf_101, eX4_reportOf_102, eX4_reportOf_103, eX4_reportOf_106, eX4_reportOf_107, eX4_reportOf_108, eX4_reportOf_111, eX4_reportOf_112, eX4_reportOf_113, eX4_reportOf_116, eX4_reportOf_119, eX4_reportOf_120, eX4_reportOf_123, eX4_reportOf_126, eX4_reportOf_129, eX4_reportOf_130, eX4_reportOf_131, eX4_reportOf_134, eX4_reportOf_135, eX4_reportOf_136, eX4_reportOf_139, eX4_reportOf_140, eX4_reportOf_143, eX4_reportOf_144, eX4_reportOf_145, eX4_reportOf_148, eX4_reportOf_151, eX4_reportOf_152, eX4_reportOf_155, eX4_reportOf_156, eX4_reportOf_159, eX4_reportOf_162, eX4_reportOf_165, eX4_reportOf_166, eX4_reportOf_167, eX4_reportOf_170, eX4_reportOf_171, eX4_reportOf_172, eX4_reportOf_175, eX4_reportOf_176, eX4_reportOf_177, eX4_reportOf_180, eX4_reportOf_183, eX4_reportOf_184, eX4_reportOf_185, eX4_reportOf_188, eX4_reportOf_191, eX4_reportOf_192, eX4_reportOf_193, eX4_reportOf_196, eX4_reportOf_199, eX4_reportOf_200, eX4_reportOf_203, eX4_reportOf_204, eX4_reportOf_205, eX4_reportOf_208, one0, and_false, false_and, gk, gr, gi, gs, rv_some, ret_i, ret_n, Option.bind_some, List.cons_append, List.nil_append, z0, z1, zi, zj, i10, i01, true_or, or_true, eq_self, not_false_eq_true, not_true_eq_false, if_true, if_false, ite_not, Decidable.not_not, and_true, true_and, or_false, false_or, Nat.reduceLeDiff, Nat.reduceMod, Nat.reduceEqDiff, ld0 hD, ld1 hD, ld2 hD, ld3 hD, ld4 hD, ld5 hD, ld6 hD, lb0 (ldB hD), lb1 (ldB hD), lb2 (ldB hD), lb3 (ldB hD), lb4 (ldB hD), lb5 (ldB hD), lb6 (ldB hD), lbr hB hr, lbr2 hB hr, ix40 hr, cl40 hr, rbr0 hR hrR, rbr1 hR hrR, rbr2 hR hrR, rbr3 hR hrR, rbr4 hR hrR, rbr5 hR hrR, rbr6 hR hrR, rbr7 hR hrR, rbr8 hR hrR, rbr9 hR hrR, rbr10 hR hrR, rbr11 hR hrR, X1_hasReport_ev hB qR (by omega), ho, X3_hasSeverity_ev hB hr, X1_priceOf_ev hB hR hT.1 hrR, X1_foldedReports_ev hB hR hT (show r < 1000 by omega), J6_bitCount_ev, bc_on q10, bc_on q11, hz, hg]
theorem re5 (hcl : Cl F I s nA nH nR n m H) (hFI : FI N s nA nH nR) {r : Nat} (hrR : r < nR) : pm_ev tb xl xs mX4_reportOf 0 [some (.ref 0), some (.int (nI r)), some (.int 5), none] [] (pm_G F I) = some (some (.int (rp s r 5)), pm_G F I) := by
  have hD := hcl.1
  have hR := hcl.2.1
  have hF4 := hcl.2.2.1
  have hC := hcl.2.2.2
  have hB := ldB hD
  have h6 := hFI.1.1.1.2
  have h8 := hFI.1.1.2.1.2
  have h40 := hFI.1.1.2.2.1.2
  have hnA := hFI.1.1.1.1
  have hnH := hFI.1.1.2.1.1
  have hnR := hFI.1.1.2.2.1.1
  have qA : I 1 3 = nI nA := (rbg3 hR).trans hnA
  have qH : I 1 4 = nI nH := (rbg4 hR).trans hnH
  have qR : I 1 5 = nI nR := (rbg5 hR).trans hnR
  have hrb := hFI.rb
  have hT := hFI.1
  have ho : ¬ out (nI r) nR := in_n hrR (by omega)
  have hr : r < 40 := by omega
  obtain ⟨⟨q3, -, -, -⟩, ⟨hz, q10, q11⟩, -⟩ := hT.2 r hrR
  simp only [eX4_reportOf_0, eX4_reportOf_1, eX4_reportOf_4, eX4_reportOf_5, eX4_reportOf_8, eX4_reportOf_11, eX4_reportOf_14, eX4_reportOf_15, eX4_reportOf_16, eX4_reportOf_19, eX4_reportOf_22, eX4_reportOf_23, eX4_reportOf_24, eX4_reportOf_25, eX4_reportOf_26_c0, eX4_reportOf_26_c1, eX4_reportOf_26_c2, eX4_reportOf_26_c3, eX4_reportOf_26_c4, eX4_reportOf_26_c5, eX4_reportOf_26_c6, eX4_reportOf_26_c7, eX4_reportOf_26_c8, eX4_reportOf_26_c9, eX4_reportOf_26_c10, eX4_reportOf_26_c11, eX4_reportOf_26_c12, eX4_reportOf_26_d, eX4_reportOf_92, eX4_reportOf_93, eX4_reportOf_96, eX4_reportOf_97, eX4_reportOf_98, eX4_reportOf_101, eX4_reportOf_102, eX4_reportOf_103, eX4_reportOf_106, eX4_reportOf_107, eX4_reportOf_108, eX4_reportOf_111, eX4_reportOf_112, eX4_reportOf_113, eX4_reportOf_116, eX4_reportOf_119, eX4_reportOf_120, eX4_reportOf_123, eX4_reportOf_126, eX4_reportOf_129, eX4_reportOf_130, eX4_reportOf_131, eX4_reportOf_134, eX4_reportOf_135, eX4_reportOf_136, eX4_reportOf_139, eX4_reportOf_140, eX4_reportOf_143, eX4_reportOf_144, eX4_reportOf_145, eX4_reportOf_148, eX4_reportOf_151, eX4_reportOf_152, eX4_reportOf_155, eX4_reportOf_156, eX4_reportOf_159, eX4_reportOf_162, eX4_reportOf_165, eX4_reportOf_166, eX4_reportOf_167, eX4_reportOf_170, eX4_reportOf_171, eX4_reportOf_172, eX4_reportOf_175, eX4_reportOf_176, eX4_reportOf_177, eX4_reportOf_180, eX4_reportOf_183, eX4_reportOf_184, eX4_reportOf_185, eX4_reportOf_188, eX4_reportOf_191, eX4_reportOf_192, eX4_reportOf_193, eX4_reportOf_196, eX4_reportOf_199, eX4_reportOf_200, eX4_reportOf_203, eX4_reportOf_204, eX4_reportOf_205, eX4_reportOf_208, one0, and_false, false_and, gk, gr, gi, gs, rv_some, ret_i, ret_n, Option.bind_some, List.cons_append, List.nil_append, z0, z1, zi, zj, i10, i01, true_or, or_true, eq_self, not_false_eq_true, not_true_eq_false, if_true, if_false, ite_not, Decidable.not_not, and_true, true_and, or_false, false_or, Nat.reduceLeDiff, Nat.reduceMod, Nat.reduceEqDiff, ld0 hD, ld1 hD, ld2 hD, ld3 hD, ld4 hD, ld5 hD, ld6 hD, lb0 (ldB hD), lb1 (ldB hD), lb2 (ldB hD), lb3 (ldB hD), lb4 (ldB hD), lb5 (ldB hD), lb6 (ldB hD), lbr hB hr, lbr2 hB hr, ix40 hr, cl40 hr, rbr0 hR hrR, rbr1 hR hrR, rbr2 hR hrR, rbr3 hR hrR, rbr4 hR hrR, rbr5 hR hrR, rbr6 hR hrR, rbr7 hR hrR, rbr8 hR hrR, rbr9 hR hrR, rbr10 hR hrR, rbr11 hR hrR, X1_hasReport_ev hB qR (by omega), ho, X3_hasSeverity_ev hB hr, X1_priceOf_ev hB hR hT.1 hrR, X1_foldedReports_ev hB hR hT (show r < 1000 by omega), J6_bitCount_ev, bc_on q10, bc_on q11, hz]
theorem re6 (hcl : Cl F I s nA nH nR n m H) (hFI : FI N s nA nH nR) {r : Nat} (hrR : r < nR) : pm_ev tb xl xs mX4_reportOf 0 [some (.ref 0), some (.int (nI r)), some (.int 6), none] [] (pm_G F I) = some (some (.int (undS s nR r)), pm_G F I) := by
  have hD := hcl.1
  have hR := hcl.2.1
  have hF4 := hcl.2.2.1
  have hC := hcl.2.2.2
  have hB := ldB hD
  have h6 := hFI.1.1.1.2
  have h8 := hFI.1.1.2.1.2
  have h40 := hFI.1.1.2.2.1.2
  have hnA := hFI.1.1.1.1
  have hnH := hFI.1.1.2.1.1
  have hnR := hFI.1.1.2.2.1.1
  have qA : I 1 3 = nI nA := (rbg3 hR).trans hnA
  have qH : I 1 4 = nI nH := (rbg4 hR).trans hnH
  have qR : I 1 5 = nI nR := (rbg5 hR).trans hnR
  have hrb := hFI.rb
  have hT := hFI.1
  have ho : ¬ out (nI r) nR := in_n hrR (by omega)
  have hr : r < 40 := by omega
  obtain ⟨⟨q3, -, -, -⟩, ⟨hz, q10, q11⟩, -⟩ := hT.2 r hrR
  simp only [eX4_reportOf_0, eX4_reportOf_1, eX4_reportOf_4, eX4_reportOf_5, eX4_reportOf_8, eX4_reportOf_11, eX4_reportOf_14, eX4_reportOf_15, eX4_reportOf_16, eX4_reportOf_19, eX4_reportOf_22, eX4_reportOf_23, eX4_reportOf_24, eX4_reportOf_25, eX4_reportOf_26_c0, eX4_reportOf_26_c1, eX4_reportOf_26_c2, eX4_reportOf_26_c3, eX4_reportOf_26_c4, eX4_reportOf_26_c5, eX4_reportOf_26_c6, eX4_reportOf_26_c7, eX4_reportOf_26_c8, eX4_reportOf_26_c9, eX4_reportOf_26_c10, eX4_reportOf_26_c11, eX4_reportOf_26_c12, eX4_reportOf_26_d, eX4_reportOf_92, eX4_reportOf_93, eX4_reportOf_96, eX4_reportOf_97, eX4_reportOf_98, eX4_reportOf_101, eX4_reportOf_102, eX4_reportOf_103, eX4_reportOf_106, eX4_reportOf_107, eX4_reportOf_108, eX4_reportOf_111, eX4_reportOf_112, eX4_reportOf_113, eX4_reportOf_116, eX4_reportOf_119, eX4_reportOf_120, eX4_reportOf_123, eX4_reportOf_126, eX4_reportOf_129, eX4_reportOf_130, eX4_reportOf_131, eX4_reportOf_134, eX4_reportOf_135, eX4_reportOf_136, eX4_reportOf_139, eX4_reportOf_140, eX4_reportOf_143, eX4_reportOf_144, eX4_reportOf_145, eX4_reportOf_148, eX4_reportOf_151, eX4_reportOf_152, eX4_reportOf_155, eX4_reportOf_156, eX4_reportOf_159, eX4_reportOf_162, eX4_reportOf_165, eX4_reportOf_166, eX4_reportOf_167, eX4_reportOf_170, eX4_reportOf_171, eX4_reportOf_172, eX4_reportOf_175, eX4_reportOf_176, eX4_reportOf_177, eX4_reportOf_180, eX4_reportOf_183, eX4_reportOf_184, eX4_reportOf_185, eX4_reportOf_188, eX4_reportOf_191, eX4_reportOf_192, eX4_reportOf_193, eX4_reportOf_196, eX4_reportOf_199, eX4_reportOf_200, eX4_reportOf_203, eX4_reportOf_204, eX4_reportOf_205, eX4_reportOf_208, one0, and_false, false_and, gk, gr, gi, gs, rv_some, ret_i, ret_n, Option.bind_some, List.cons_append, List.nil_append, z0, z1, zi, zj, i10, i01, true_or, or_true, eq_self, not_false_eq_true, not_true_eq_false, if_true, if_false, ite_not, Decidable.not_not, and_true, true_and, or_false, false_or, Nat.reduceLeDiff, Nat.reduceMod, Nat.reduceEqDiff, ld0 hD, ld1 hD, ld2 hD, ld3 hD, ld4 hD, ld5 hD, ld6 hD, lb0 (ldB hD), lb1 (ldB hD), lb2 (ldB hD), lb3 (ldB hD), lb4 (ldB hD), lb5 (ldB hD), lb6 (ldB hD), lbr hB hr, lbr2 hB hr, ix40 hr, cl40 hr, rbr0 hR hrR, rbr1 hR hrR, rbr2 hR hrR, rbr3 hR hrR, rbr4 hR hrR, rbr5 hR hrR, rbr6 hR hrR, rbr7 hR hrR, rbr8 hR hrR, rbr9 hR hrR, rbr10 hR hrR, rbr11 hR hrR, X1_hasReport_ev hB qR (by omega), ho, X3_hasSeverity_ev hB hr, X1_priceOf_ev hB hR hT.1 hrR, X1_foldedReports_ev hB hR hT (show r < 1000 by omega), J6_bitCount_ev, bc_on q10, bc_on q11, hz]
  rfl
theorem re7 (hcl : Cl F I s nA nH nR n m H) (hFI : FI N s nA nH nR) {r : Nat} (hrR : r < nR) : pm_ev tb xl xs mX4_reportOf 0 [some (.ref 0), some (.int (nI r)), some (.int 7), none] [] (pm_G F I) = some (some (.int (prV s r)), pm_G F I) := by
  have hD := hcl.1
  have hR := hcl.2.1
  have hF4 := hcl.2.2.1
  have hC := hcl.2.2.2
  have hB := ldB hD
  have h6 := hFI.1.1.1.2
  have h8 := hFI.1.1.2.1.2
  have h40 := hFI.1.1.2.2.1.2
  have hnA := hFI.1.1.1.1
  have hnH := hFI.1.1.2.1.1
  have hnR := hFI.1.1.2.2.1.1
  have qA : I 1 3 = nI nA := (rbg3 hR).trans hnA
  have qH : I 1 4 = nI nH := (rbg4 hR).trans hnH
  have qR : I 1 5 = nI nR := (rbg5 hR).trans hnR
  have hrb := hFI.rb
  have hT := hFI.1
  have ho : ¬ out (nI r) nR := in_n hrR (by omega)
  have hr : r < 40 := by omega
  obtain ⟨⟨q3, -, -, -⟩, ⟨hz, q10, q11⟩, -⟩ := hT.2 r hrR
  unfold prV
  by_cases hg : rp s r 3 = 1 ∨ rp s r 3 = 2 ∨ rp s r 3 = 3
  · simp only [eX4_reportOf_0, eX4_reportOf_1, eX4_reportOf_4, eX4_reportOf_5, eX4_reportOf_8, eX4_reportOf_11, eX4_reportOf_14, eX4_reportOf_15, eX4_reportOf_16, eX4_reportOf_19, eX4_reportOf_22, eX4_reportOf_23, eX4_reportOf_24, eX4_reportOf_25, eX4_reportOf_26_c0, eX4_reportOf_26_c1, eX4_reportOf_26_c2, eX4_reportOf_26_c3, eX4_reportOf_26_c4, eX4_reportOf_26_c5, eX4_reportOf_26_c6, eX4_reportOf_26_c7, eX4_reportOf_26_c8, eX4_reportOf_26_c9, eX4_reportOf_26_c10, eX4_reportOf_26_c11, eX4_reportOf_26_c12, eX4_reportOf_26_d, eX4_reportOf_92, eX4_reportOf_93, eX4_reportOf_96, eX4_reportOf_97, eX4_reportOf_98, eX4_reportOf_101, eX4_reportOf_102, eX4_reportOf_103, eX4_reportOf_106, eX4_reportOf_107, eX4_reportOf_108, eX4_reportOf_111, eX4_reportOf_112, eX4_reportOf_113, eX4_reportOf_116, eX4_reportOf_119, eX4_reportOf_120, eX4_reportOf_123, eX4_reportOf_126, eX4_reportOf_129, eX4_reportOf_130, eX4_reportOf_131, eX4_reportOf_134, eX4_reportOf_135, eX4_reportOf_136, eX4_reportOf_139, eX4_reportOf_140, eX4_reportOf_143, eX4_reportOf_144, eX4_reportOf_145, eX4_reportOf_148, eX4_reportOf_151, eX4_reportOf_152, eX4_reportOf_155, eX4_reportOf_156, eX4_reportOf_159, eX4_reportOf_162, eX4_reportOf_165, eX4_reportOf_166, eX4_reportOf_167, eX4_reportOf_170, eX4_reportOf_171, eX4_reportOf_172, eX4_reportOf_175, eX4_reportOf_176, eX4_reportOf_177, eX4_reportOf_180, eX4_reportOf_183, eX4_reportOf_184, eX4_reportOf_185, eX4_reportOf_188, eX4_reportOf_191, eX4_reportOf_192, eX4_reportOf_193, eX4_reportOf_196, eX4_reportOf_199, eX4_reportOf_200, eX4_reportOf_203, eX4_reportOf_204, eX4_reportOf_205, eX4_reportOf_208, one0, and_false, false_and, gk, gr, gi, gs, rv_some, ret_i, ret_n, Option.bind_some, List.cons_append, List.nil_append, z0, z1, zi, zj, i10, i01, true_or, or_true, eq_self, not_false_eq_true, not_true_eq_false, if_true, if_false, ite_not, Decidable.not_not, and_true, true_and, or_false, false_or, Nat.reduceLeDiff, Nat.reduceMod, Nat.reduceEqDiff, ld0 hD, ld1 hD, ld2 hD, ld3 hD, ld4 hD, ld5 hD, ld6 hD, lb0 (ldB hD), lb1 (ldB hD), lb2 (ldB hD), lb3 (ldB hD), lb4 (ldB hD), lb5 (ldB hD), lb6 (ldB hD), lbr hB hr, lbr2 hB hr, ix40 hr, cl40 hr, rbr0 hR hrR, rbr1 hR hrR, rbr2 hR hrR, rbr3 hR hrR, rbr4 hR hrR, rbr5 hR hrR, rbr6 hR hrR, rbr7 hR hrR, rbr8 hR hrR, rbr9 hR hrR, rbr10 hR hrR, rbr11 hR hrR, X1_hasReport_ev hB qR (by omega), ho, X3_hasSeverity_ev hB hr, X1_priceOf_ev hB hR hT.1 hrR, X1_foldedReports_ev hB hR hT (show r < 1000 by omega), J6_bitCount_ev, bc_on q10, bc_on q11, hz, hg]
  · simp only [eX4_reportOf_0, eX4_reportOf_1, eX4_reportOf_4, eX4_reportOf_5, eX4_reportOf_8, eX4_reportOf_11, eX4_reportOf_14, eX4_reportOf_15, eX4_reportOf_16, eX4_reportOf_19, eX4_reportOf_22, eX4_reportOf_23, eX4_reportOf_24, eX4_reportOf_25, eX4_reportOf_26_c0, eX4_reportOf_26_c1, eX4_reportOf_26_c2, eX4_reportOf_26_c3, eX4_reportOf_26_c4, eX4_reportOf_26_c5, eX4_reportOf_26_c6, eX4_reportOf_26_c7, eX4_reportOf_26_c8, eX4_reportOf_26_c9, eX4_reportOf_26_c10, eX4_reportOf_26_c11, eX4_reportOf_26_c12, eX4_reportOf_26_d, eX4_reportOf_92, eX4_reportOf_93, eX4_reportOf_96, eX4_reportOf_97, eX4_reportOf_98, eX4_reportOf_101, eX4_reportOf_102, eX4_reportOf_103, eX4_reportOf_106, eX4_reportOf_107, eX4_reportOf_108, eX4_reportOf_111, eX4_reportOf_112, eX4_reportOf_113, eX4_reportOf_116, eX4_reportOf_119, eX4_reportOf_120, eX4_reportOf_123, eX4_reportOf_126, eX4_reportOf_129, eX4_reportOf_130, eX4_reportOf_131, eX4_reportOf_134, eX4_reportOf_135, eX4_reportOf_136, eX4_reportOf_139, eX4_reportOf_140, eX4_reportOf_143, eX4_reportOf_144, eX4_reportOf_145, eX4_reportOf_148, eX4_reportOf_151, eX4_reportOf_152, eX4_reportOf_155, eX4_reportOf_156, eX4_reportOf_159, eX4_reportOf_162, eX4_reportOf_165, eX4_reportOf_166, eX4_reportOf_167, eX4_reportOf_170, eX4_reportOf_171, eX4_reportOf_172, eX4_reportOf_175, eX4_reportOf_176, eX4_reportOf_177, eX4_reportOf_180, eX4_reportOf_183, eX4_reportOf_184, eX4_reportOf_185, eX4_reportOf_188, eX4_reportOf_191, eX4_reportOf_192, eX4_reportOf_193, eX4_reportOf_196, eX4_reportOf_199, eX4_reportOf_200, eX4_reportOf_203, eX4_reportOf_204, eX4_reportOf_205, eX4_reportOf_208, one0, and_false, false_and, gk, gr, gi, gs, rv_some, ret_i, ret_n, Option.bind_some, List.cons_append, List.nil_append, z0, z1, zi, zj, i10, i01, true_or, or_true, eq_self, not_false_eq_true, not_true_eq_false, if_true, if_false, ite_not, Decidable.not_not, and_true, true_and, or_false, false_or, Nat.reduceLeDiff, Nat.reduceMod, Nat.reduceEqDiff, ld0 hD, ld1 hD, ld2 hD, ld3 hD, ld4 hD, ld5 hD, ld6 hD, lb0 (ldB hD), lb1 (ldB hD), lb2 (ldB hD), lb3 (ldB hD), lb4 (ldB hD), lb5 (ldB hD), lb6 (ldB hD), lbr hB hr, lbr2 hB hr, ix40 hr, cl40 hr, rbr0 hR hrR, rbr1 hR hrR, rbr2 hR hrR, rbr3 hR hrR, rbr4 hR hrR, rbr5 hR hrR, rbr6 hR hrR, rbr7 hR hrR, rbr8 hR hrR, rbr9 hR hrR, rbr10 hR hrR, rbr11 hR hrR, X1_hasReport_ev hB qR (by omega), ho, X3_hasSeverity_ev hB hr, X1_priceOf_ev hB hR hT.1 hrR, X1_foldedReports_ev hB hR hT (show r < 1000 by omega), J6_bitCount_ev, bc_on q10, bc_on q11, hz, hg]
theorem re8 (hcl : Cl F I s nA nH nR n m H) (hFI : FI N s nA nH nR) {r : Nat} (hrR : r < nR) : pm_ev tb xl xs mX4_reportOf 0 [some (.ref 0), some (.int (nI r)), some (.int 8), none] [] (pm_G F I) = some (some (.int (rp s r 6)), pm_G F I) := by
  have hD := hcl.1
  have hR := hcl.2.1
  have hF4 := hcl.2.2.1
  have hC := hcl.2.2.2
  have hB := ldB hD
  have h6 := hFI.1.1.1.2
  have h8 := hFI.1.1.2.1.2
  have h40 := hFI.1.1.2.2.1.2
  have hnA := hFI.1.1.1.1
  have hnH := hFI.1.1.2.1.1
  have hnR := hFI.1.1.2.2.1.1
  have qA : I 1 3 = nI nA := (rbg3 hR).trans hnA
  have qH : I 1 4 = nI nH := (rbg4 hR).trans hnH
  have qR : I 1 5 = nI nR := (rbg5 hR).trans hnR
  have hrb := hFI.rb
  have hT := hFI.1
  have ho : ¬ out (nI r) nR := in_n hrR (by omega)
  have hr : r < 40 := by omega
  obtain ⟨⟨q3, -, -, -⟩, ⟨hz, q10, q11⟩, -⟩ := hT.2 r hrR
  simp only [eX4_reportOf_0, eX4_reportOf_1, eX4_reportOf_4, eX4_reportOf_5, eX4_reportOf_8, eX4_reportOf_11, eX4_reportOf_14, eX4_reportOf_15, eX4_reportOf_16, eX4_reportOf_19, eX4_reportOf_22, eX4_reportOf_23, eX4_reportOf_24, eX4_reportOf_25, eX4_reportOf_26_c0, eX4_reportOf_26_c1, eX4_reportOf_26_c2, eX4_reportOf_26_c3, eX4_reportOf_26_c4, eX4_reportOf_26_c5, eX4_reportOf_26_c6, eX4_reportOf_26_c7, eX4_reportOf_26_c8, eX4_reportOf_26_c9, eX4_reportOf_26_c10, eX4_reportOf_26_c11, eX4_reportOf_26_c12, eX4_reportOf_26_d, eX4_reportOf_92, eX4_reportOf_93, eX4_reportOf_96, eX4_reportOf_97, eX4_reportOf_98, eX4_reportOf_101, eX4_reportOf_102, eX4_reportOf_103, eX4_reportOf_106, eX4_reportOf_107, eX4_reportOf_108, eX4_reportOf_111, eX4_reportOf_112, eX4_reportOf_113, eX4_reportOf_116, eX4_reportOf_119, eX4_reportOf_120, eX4_reportOf_123, eX4_reportOf_126, eX4_reportOf_129, eX4_reportOf_130, eX4_reportOf_131, eX4_reportOf_134, eX4_reportOf_135, eX4_reportOf_136, eX4_reportOf_139, eX4_reportOf_140, eX4_reportOf_143, eX4_reportOf_144, eX4_reportOf_145, eX4_reportOf_148, eX4_reportOf_151, eX4_reportOf_152, eX4_reportOf_155, eX4_reportOf_156, eX4_reportOf_159, eX4_reportOf_162, eX4_reportOf_165, eX4_reportOf_166, eX4_reportOf_167, eX4_reportOf_170, eX4_reportOf_171, eX4_reportOf_172, eX4_reportOf_175, eX4_reportOf_176, eX4_reportOf_177, eX4_reportOf_180, eX4_reportOf_183, eX4_reportOf_184, eX4_reportOf_185, eX4_reportOf_188, eX4_reportOf_191, eX4_reportOf_192, eX4_reportOf_193, eX4_reportOf_196, eX4_reportOf_199, eX4_reportOf_200, eX4_reportOf_203, eX4_reportOf_204, eX4_reportOf_205, eX4_reportOf_208, one0, and_false, false_and, gk, gr, gi, gs, rv_some, ret_i, ret_n, Option.bind_some, List.cons_append, List.nil_append, z0, z1, zi, zj, i10, i01, true_or, or_true, eq_self, not_false_eq_true, not_true_eq_false, if_true, if_false, ite_not, Decidable.not_not, and_true, true_and, or_false, false_or, Nat.reduceLeDiff, Nat.reduceMod, Nat.reduceEqDiff, ld0 hD, ld1 hD, ld2 hD, ld3 hD, ld4 hD, ld5 hD, ld6 hD, lb0 (ldB hD), lb1 (ldB hD), lb2 (ldB hD), lb3 (ldB hD), lb4 (ldB hD), lb5 (ldB hD), lb6 (ldB hD), lbr hB hr, lbr2 hB hr, ix40 hr, cl40 hr, rbr0 hR hrR, rbr1 hR hrR, rbr2 hR hrR, rbr3 hR hrR, rbr4 hR hrR, rbr5 hR hrR, rbr6 hR hrR, rbr7 hR hrR, rbr8 hR hrR, rbr9 hR hrR, rbr10 hR hrR, rbr11 hR hrR, X1_hasReport_ev hB qR (by omega), ho, X3_hasSeverity_ev hB hr, X1_priceOf_ev hB hR hT.1 hrR, X1_foldedReports_ev hB hR hT (show r < 1000 by omega), J6_bitCount_ev, bc_on q10, bc_on q11, hz]
theorem re9 (hcl : Cl F I s nA nH nR n m H) (hFI : FI N s nA nH nR) {r : Nat} (hrR : r < nR) : pm_ev tb xl xs mX4_reportOf 0 [some (.ref 0), some (.int (nI r)), some (.int 9), none] [] (pm_G F I) = some (some (.int (rp s r 8)), pm_G F I) := by
  have hD := hcl.1
  have hR := hcl.2.1
  have hF4 := hcl.2.2.1
  have hC := hcl.2.2.2
  have hB := ldB hD
  have h6 := hFI.1.1.1.2
  have h8 := hFI.1.1.2.1.2
  have h40 := hFI.1.1.2.2.1.2
  have hnA := hFI.1.1.1.1
  have hnH := hFI.1.1.2.1.1
  have hnR := hFI.1.1.2.2.1.1
  have qA : I 1 3 = nI nA := (rbg3 hR).trans hnA
  have qH : I 1 4 = nI nH := (rbg4 hR).trans hnH
  have qR : I 1 5 = nI nR := (rbg5 hR).trans hnR
  have hrb := hFI.rb
  have hT := hFI.1
  have ho : ¬ out (nI r) nR := in_n hrR (by omega)
  have hr : r < 40 := by omega
  obtain ⟨⟨q3, -, -, -⟩, ⟨hz, q10, q11⟩, -⟩ := hT.2 r hrR
  simp only [eX4_reportOf_0, eX4_reportOf_1, eX4_reportOf_4, eX4_reportOf_5, eX4_reportOf_8, eX4_reportOf_11, eX4_reportOf_14, eX4_reportOf_15, eX4_reportOf_16, eX4_reportOf_19, eX4_reportOf_22, eX4_reportOf_23, eX4_reportOf_24, eX4_reportOf_25, eX4_reportOf_26_c0, eX4_reportOf_26_c1, eX4_reportOf_26_c2, eX4_reportOf_26_c3, eX4_reportOf_26_c4, eX4_reportOf_26_c5, eX4_reportOf_26_c6, eX4_reportOf_26_c7, eX4_reportOf_26_c8, eX4_reportOf_26_c9, eX4_reportOf_26_c10, eX4_reportOf_26_c11, eX4_reportOf_26_c12, eX4_reportOf_26_d, eX4_reportOf_92, eX4_reportOf_93, eX4_reportOf_96, eX4_reportOf_97, eX4_reportOf_98, eX4_reportOf_101, eX4_reportOf_102, eX4_reportOf_103, eX4_reportOf_106, eX4_reportOf_107, eX4_reportOf_108, eX4_reportOf_111, eX4_reportOf_112, eX4_reportOf_113, eX4_reportOf_116, eX4_reportOf_119, eX4_reportOf_120, eX4_reportOf_123, eX4_reportOf_126, eX4_reportOf_129, eX4_reportOf_130, eX4_reportOf_131, eX4_reportOf_134, eX4_reportOf_135, eX4_reportOf_136, eX4_reportOf_139, eX4_reportOf_140, eX4_reportOf_143, eX4_reportOf_144, eX4_reportOf_145, eX4_reportOf_148, eX4_reportOf_151, eX4_reportOf_152, eX4_reportOf_155, eX4_reportOf_156, eX4_reportOf_159, eX4_reportOf_162, eX4_reportOf_165, eX4_reportOf_166, eX4_reportOf_167, eX4_reportOf_170, eX4_reportOf_171, eX4_reportOf_172, eX4_reportOf_175, eX4_reportOf_176, eX4_reportOf_177, eX4_reportOf_180, eX4_reportOf_183, eX4_reportOf_184, eX4_reportOf_185, eX4_reportOf_188, eX4_reportOf_191, eX4_reportOf_192, eX4_reportOf_193, eX4_reportOf_196, eX4_reportOf_199, eX4_reportOf_200, eX4_reportOf_203, eX4_reportOf_204, eX4_reportOf_205, eX4_reportOf_208, one0, and_false, false_and, gk, gr, gi, gs, rv_some, ret_i, ret_n, Option.bind_some, List.cons_append, List.nil_append, z0, z1, zi, zj, i10, i01, true_or, or_true, eq_self, not_false_eq_true, not_true_eq_false, if_true, if_false, ite_not, Decidable.not_not, and_true, true_and, or_false, false_or, Nat.reduceLeDiff, Nat.reduceMod, Nat.reduceEqDiff, ld0 hD, ld1 hD, ld2 hD, ld3 hD, ld4 hD, ld5 hD, ld6 hD, lb0 (ldB hD), lb1 (ldB hD), lb2 (ldB hD), lb3 (ldB hD), lb4 (ldB hD), lb5 (ldB hD), lb6 (ldB hD), lbr hB hr, lbr2 hB hr, ix40 hr, cl40 hr, rbr0 hR hrR, rbr1 hR hrR, rbr2 hR hrR, rbr3 hR hrR, rbr4 hR hrR, rbr5 hR hrR, rbr6 hR hrR, rbr7 hR hrR, rbr8 hR hrR, rbr9 hR hrR, rbr10 hR hrR, rbr11 hR hrR, X1_hasReport_ev hB qR (by omega), ho, X3_hasSeverity_ev hB hr, X1_priceOf_ev hB hR hT.1 hrR, X1_foldedReports_ev hB hR hT (show r < 1000 by omega), J6_bitCount_ev, bc_on q10, bc_on q11, hz]
theorem re10 (hcl : Cl F I s nA nH nR n m H) (hFI : FI N s nA nH nR) {r : Nat} (hrR : r < nR) : pm_ev tb xl xs mX4_reportOf 0 [some (.ref 0), some (.int (nI r)), some (.int 10), none] [] (pm_G F I) = some (some (.int (onS (rp s r 10))), pm_G F I) := by
  have hD := hcl.1
  have hR := hcl.2.1
  have hF4 := hcl.2.2.1
  have hC := hcl.2.2.2
  have hB := ldB hD
  have h6 := hFI.1.1.1.2
  have h8 := hFI.1.1.2.1.2
  have h40 := hFI.1.1.2.2.1.2
  have hnA := hFI.1.1.1.1
  have hnH := hFI.1.1.2.1.1
  have hnR := hFI.1.1.2.2.1.1
  have qA : I 1 3 = nI nA := (rbg3 hR).trans hnA
  have qH : I 1 4 = nI nH := (rbg4 hR).trans hnH
  have qR : I 1 5 = nI nR := (rbg5 hR).trans hnR
  have hrb := hFI.rb
  have hT := hFI.1
  have ho : ¬ out (nI r) nR := in_n hrR (by omega)
  have hr : r < 40 := by omega
  obtain ⟨⟨q3, -, -, -⟩, ⟨hz, q10, q11⟩, -⟩ := hT.2 r hrR
  simp only [eX4_reportOf_0, eX4_reportOf_1, eX4_reportOf_4, eX4_reportOf_5, eX4_reportOf_8, eX4_reportOf_11, eX4_reportOf_14, eX4_reportOf_15, eX4_reportOf_16, eX4_reportOf_19, eX4_reportOf_22, eX4_reportOf_23, eX4_reportOf_24, eX4_reportOf_25, eX4_reportOf_26_c0, eX4_reportOf_26_c1, eX4_reportOf_26_c2, eX4_reportOf_26_c3, eX4_reportOf_26_c4, eX4_reportOf_26_c5, eX4_reportOf_26_c6, eX4_reportOf_26_c7, eX4_reportOf_26_c8, eX4_reportOf_26_c9, eX4_reportOf_26_c10, eX4_reportOf_26_c11, eX4_reportOf_26_c12, eX4_reportOf_26_d, eX4_reportOf_92, eX4_reportOf_93, eX4_reportOf_96, eX4_reportOf_97, eX4_reportOf_98, eX4_reportOf_101, eX4_reportOf_102, eX4_reportOf_103, eX4_reportOf_106, eX4_reportOf_107, eX4_reportOf_108, eX4_reportOf_111, eX4_reportOf_112, eX4_reportOf_113, eX4_reportOf_116, eX4_reportOf_119, eX4_reportOf_120, eX4_reportOf_123, eX4_reportOf_126, eX4_reportOf_129, eX4_reportOf_130, eX4_reportOf_131, eX4_reportOf_134, eX4_reportOf_135, eX4_reportOf_136, eX4_reportOf_139, eX4_reportOf_140, eX4_reportOf_143, eX4_reportOf_144, eX4_reportOf_145, eX4_reportOf_148, eX4_reportOf_151, eX4_reportOf_152, eX4_reportOf_155, eX4_reportOf_156, eX4_reportOf_159, eX4_reportOf_162, eX4_reportOf_165, eX4_reportOf_166, eX4_reportOf_167, eX4_reportOf_170, eX4_reportOf_171, eX4_reportOf_172, eX4_reportOf_175, eX4_reportOf_176, eX4_reportOf_177, eX4_reportOf_180, eX4_reportOf_183, eX4_reportOf_184, eX4_reportOf_185, eX4_reportOf_188, eX4_reportOf_191, eX4_reportOf_192, eX4_reportOf_193, eX4_reportOf_196, eX4_reportOf_199, eX4_reportOf_200, eX4_reportOf_203, eX4_reportOf_204, eX4_reportOf_205, eX4_reportOf_208, one0, and_false, false_and, gk, gr, gi, gs, rv_some, ret_i, ret_n, Option.bind_some, List.cons_append, List.nil_append, z0, z1, zi, zj, i10, i01, true_or, or_true, eq_self, not_false_eq_true, not_true_eq_false, if_true, if_false, ite_not, Decidable.not_not, and_true, true_and, or_false, false_or, Nat.reduceLeDiff, Nat.reduceMod, Nat.reduceEqDiff, ld0 hD, ld1 hD, ld2 hD, ld3 hD, ld4 hD, ld5 hD, ld6 hD, lb0 (ldB hD), lb1 (ldB hD), lb2 (ldB hD), lb3 (ldB hD), lb4 (ldB hD), lb5 (ldB hD), lb6 (ldB hD), lbr hB hr, lbr2 hB hr, ix40 hr, cl40 hr, rbr0 hR hrR, rbr1 hR hrR, rbr2 hR hrR, rbr3 hR hrR, rbr4 hR hrR, rbr5 hR hrR, rbr6 hR hrR, rbr7 hR hrR, rbr8 hR hrR, rbr9 hR hrR, rbr10 hR hrR, rbr11 hR hrR, X1_hasReport_ev hB qR (by omega), ho, X3_hasSeverity_ev hB hr, X1_priceOf_ev hB hR hT.1 hrR, X1_foldedReports_ev hB hR hT (show r < 1000 by omega), J6_bitCount_ev, bc_on q10, bc_on q11, hz]
theorem re11 (hcl : Cl F I s nA nH nR n m H) (hFI : FI N s nA nH nR) {r : Nat} (hrR : r < nR) : pm_ev tb xl xs mX4_reportOf 0 [some (.ref 0), some (.int (nI r)), some (.int 11), none] [] (pm_G F I) = some (some (.int (onS (rp s r 11))), pm_G F I) := by
  have hD := hcl.1
  have hR := hcl.2.1
  have hF4 := hcl.2.2.1
  have hC := hcl.2.2.2
  have hB := ldB hD
  have h6 := hFI.1.1.1.2
  have h8 := hFI.1.1.2.1.2
  have h40 := hFI.1.1.2.2.1.2
  have hnA := hFI.1.1.1.1
  have hnH := hFI.1.1.2.1.1
  have hnR := hFI.1.1.2.2.1.1
  have qA : I 1 3 = nI nA := (rbg3 hR).trans hnA
  have qH : I 1 4 = nI nH := (rbg4 hR).trans hnH
  have qR : I 1 5 = nI nR := (rbg5 hR).trans hnR
  have hrb := hFI.rb
  have hT := hFI.1
  have ho : ¬ out (nI r) nR := in_n hrR (by omega)
  have hr : r < 40 := by omega
  obtain ⟨⟨q3, -, -, -⟩, ⟨hz, q10, q11⟩, -⟩ := hT.2 r hrR
  simp only [eX4_reportOf_0, eX4_reportOf_1, eX4_reportOf_4, eX4_reportOf_5, eX4_reportOf_8, eX4_reportOf_11, eX4_reportOf_14, eX4_reportOf_15, eX4_reportOf_16, eX4_reportOf_19, eX4_reportOf_22, eX4_reportOf_23, eX4_reportOf_24, eX4_reportOf_25, eX4_reportOf_26_c0, eX4_reportOf_26_c1, eX4_reportOf_26_c2, eX4_reportOf_26_c3, eX4_reportOf_26_c4, eX4_reportOf_26_c5, eX4_reportOf_26_c6, eX4_reportOf_26_c7, eX4_reportOf_26_c8, eX4_reportOf_26_c9, eX4_reportOf_26_c10, eX4_reportOf_26_c11, eX4_reportOf_26_c12, eX4_reportOf_26_d, eX4_reportOf_92, eX4_reportOf_93, eX4_reportOf_96, eX4_reportOf_97, eX4_reportOf_98, eX4_reportOf_101, eX4_reportOf_102, eX4_reportOf_103, eX4_reportOf_106, eX4_reportOf_107, eX4_reportOf_108, eX4_reportOf_111, eX4_reportOf_112, eX4_reportOf_113, eX4_reportOf_116, eX4_reportOf_119, eX4_reportOf_120, eX4_reportOf_123, eX4_reportOf_126, eX4_reportOf_129, eX4_reportOf_130, eX4_reportOf_131, eX4_reportOf_134, eX4_reportOf_135, eX4_reportOf_136, eX4_reportOf_139, eX4_reportOf_140, eX4_reportOf_143, eX4_reportOf_144, eX4_reportOf_145, eX4_reportOf_148, eX4_reportOf_151, eX4_reportOf_152, eX4_reportOf_155, eX4_reportOf_156, eX4_reportOf_159, eX4_reportOf_162, eX4_reportOf_165, eX4_reportOf_166, eX4_reportOf_167, eX4_reportOf_170, eX4_reportOf_171, eX4_reportOf_172, eX4_reportOf_175, eX4_reportOf_176, eX4_reportOf_177, eX4_reportOf_180, eX4_reportOf_183, eX4_reportOf_184, eX4_reportOf_185, eX4_reportOf_188, eX4_reportOf_191, eX4_reportOf_192, eX4_reportOf_193, eX4_reportOf_196, eX4_reportOf_199, eX4_reportOf_200, eX4_reportOf_203, eX4_reportOf_204, eX4_reportOf_205, eX4_reportOf_208, one0, and_false, false_and, gk, gr, gi, gs, rv_some, ret_i, ret_n, Option.bind_some, List.cons_append, List.nil_append, z0, z1, zi, zj, i10, i01, true_or, or_true, eq_self, not_false_eq_true, not_true_eq_false, if_true, if_false, ite_not, Decidable.not_not, and_true, true_and, or_false, false_or, Nat.reduceLeDiff, Nat.reduceMod, Nat.reduceEqDiff, ld0 hD, ld1 hD, ld2 hD, ld3 hD, ld4 hD, ld5 hD, ld6 hD, lb0 (ldB hD), lb1 (ldB hD), lb2 (ldB hD), lb3 (ldB hD), lb4 (ldB hD), lb5 (ldB hD), lb6 (ldB hD), lbr hB hr, lbr2 hB hr, ix40 hr, cl40 hr, rbr0 hR hrR, rbr1 hR hrR, rbr2 hR hrR, rbr3 hR hrR, rbr4 hR hrR, rbr5 hR hrR, rbr6 hR hrR, rbr7 hR hrR, rbr8 hR hrR, rbr9 hR hrR, rbr10 hR hrR, rbr11 hR hrR, X1_hasReport_ev hB qR (by omega), ho, X3_hasSeverity_ev hB hr, X1_priceOf_ev hB hR hT.1 hrR, X1_foldedReports_ev hB hR hT (show r < 1000 by omega), J6_bitCount_ev, bc_on q10, bc_on q11, hz]
theorem re12 (hcl : Cl F I s nA nH nR n m H) (hFI : FI N s nA nH nR) {r : Nat} (hrR : r < nR) : pm_ev tb xl xs mX4_reportOf 0 [some (.ref 0), some (.int (nI r)), some (.int 12), none] [] (pm_G F I) = some (some (.int (rp s r 9)), pm_G F I) := by
  have hD := hcl.1
  have hR := hcl.2.1
  have hF4 := hcl.2.2.1
  have hC := hcl.2.2.2
  have hB := ldB hD
  have h6 := hFI.1.1.1.2
  have h8 := hFI.1.1.2.1.2
  have h40 := hFI.1.1.2.2.1.2
  have hnA := hFI.1.1.1.1
  have hnH := hFI.1.1.2.1.1
  have hnR := hFI.1.1.2.2.1.1
  have qA : I 1 3 = nI nA := (rbg3 hR).trans hnA
  have qH : I 1 4 = nI nH := (rbg4 hR).trans hnH
  have qR : I 1 5 = nI nR := (rbg5 hR).trans hnR
  have hrb := hFI.rb
  have hT := hFI.1
  have ho : ¬ out (nI r) nR := in_n hrR (by omega)
  have hr : r < 40 := by omega
  obtain ⟨⟨q3, -, -, -⟩, ⟨hz, q10, q11⟩, -⟩ := hT.2 r hrR
  rcases hz with hz0 | hz0
  · have hz : zb (rp s r 9) := by rw [hz0]; exact z0
    simp only [eX4_reportOf_0, eX4_reportOf_1, eX4_reportOf_4, eX4_reportOf_5, eX4_reportOf_8, eX4_reportOf_11, eX4_reportOf_14, eX4_reportOf_15, eX4_reportOf_16, eX4_reportOf_19, eX4_reportOf_22, eX4_reportOf_23, eX4_reportOf_24, eX4_reportOf_25, eX4_reportOf_26_c0, eX4_reportOf_26_c1, eX4_reportOf_26_c2, eX4_reportOf_26_c3, eX4_reportOf_26_c4, eX4_reportOf_26_c5, eX4_reportOf_26_c6, eX4_reportOf_26_c7, eX4_reportOf_26_c8, eX4_reportOf_26_c9, eX4_reportOf_26_c10, eX4_reportOf_26_c11, eX4_reportOf_26_c12, eX4_reportOf_26_d, eX4_reportOf_92, eX4_reportOf_93, eX4_reportOf_96, eX4_reportOf_97, eX4_reportOf_98, eX4_reportOf_101, eX4_reportOf_102, eX4_reportOf_103, eX4_reportOf_106, eX4_reportOf_107, eX4_reportOf_108, eX4_reportOf_111, eX4_reportOf_112, eX4_reportOf_113, eX4_reportOf_116, eX4_reportOf_119, eX4_reportOf_120, eX4_reportOf_123, eX4_reportOf_126, eX4_reportOf_129, eX4_reportOf_130, eX4_reportOf_131, eX4_reportOf_134, eX4_reportOf_135, eX4_reportOf_136, eX4_reportOf_139, eX4_reportOf_140, eX4_reportOf_143, eX4_reportOf_144, eX4_reportOf_145, eX4_reportOf_148, eX4_reportOf_151, eX4_reportOf_152, eX4_reportOf_155, eX4_reportOf_156, eX4_reportOf_159, eX4_reportOf_162, eX4_reportOf_165, eX4_reportOf_166, eX4_reportOf_167, eX4_reportOf_170, eX4_reportOf_171, eX4_reportOf_172, eX4_reportOf_175, eX4_reportOf_176, eX4_reportOf_177, eX4_reportOf_180, eX4_reportOf_183, eX4_reportOf_184, eX4_reportOf_185, eX4_reportOf_188, eX4_reportOf_191, eX4_reportOf_192, eX4_reportOf_193, eX4_reportOf_196, eX4_reportOf_199, eX4_reportOf_200, eX4_reportOf_203, eX4_reportOf_204, eX4_reportOf_205, eX4_reportOf_208, one0, and_false, false_and, gk, gr, gi, gs, rv_some, ret_i, ret_n, Option.bind_some, List.cons_append, List.nil_append, z0, z1, zi, zj, i10, i01, true_or, or_true, eq_self, not_false_eq_true, not_true_eq_false, if_true, if_false, ite_not, Decidable.not_not, and_true, true_and, or_false, false_or, Nat.reduceLeDiff, Nat.reduceMod, Nat.reduceEqDiff, ld0 hD, ld1 hD, ld2 hD, ld3 hD, ld4 hD, ld5 hD, ld6 hD, lb0 (ldB hD), lb1 (ldB hD), lb2 (ldB hD), lb3 (ldB hD), lb4 (ldB hD), lb5 (ldB hD), lb6 (ldB hD), lbr hB hr, lbr2 hB hr, ix40 hr, cl40 hr, rbr0 hR hrR, rbr1 hR hrR, rbr2 hR hrR, rbr3 hR hrR, rbr4 hR hrR, rbr5 hR hrR, rbr6 hR hrR, rbr7 hR hrR, rbr8 hR hrR, rbr9 hR hrR, rbr10 hR hrR, rbr11 hR hrR, X1_hasReport_ev hB qR (by omega), ho, X3_hasSeverity_ev hB hr, X1_priceOf_ev hB hR hT.1 hrR, X1_foldedReports_ev hB hR hT (show r < 1000 by omega), J6_bitCount_ev, bc_on q10, bc_on q11, hz, hz0, z0, z1]
  · have hz : zb (rp s r 9) := by rw [hz0]; exact z1
    simp only [eX4_reportOf_0, eX4_reportOf_1, eX4_reportOf_4, eX4_reportOf_5, eX4_reportOf_8, eX4_reportOf_11, eX4_reportOf_14, eX4_reportOf_15, eX4_reportOf_16, eX4_reportOf_19, eX4_reportOf_22, eX4_reportOf_23, eX4_reportOf_24, eX4_reportOf_25, eX4_reportOf_26_c0, eX4_reportOf_26_c1, eX4_reportOf_26_c2, eX4_reportOf_26_c3, eX4_reportOf_26_c4, eX4_reportOf_26_c5, eX4_reportOf_26_c6, eX4_reportOf_26_c7, eX4_reportOf_26_c8, eX4_reportOf_26_c9, eX4_reportOf_26_c10, eX4_reportOf_26_c11, eX4_reportOf_26_c12, eX4_reportOf_26_d, eX4_reportOf_92, eX4_reportOf_93, eX4_reportOf_96, eX4_reportOf_97, eX4_reportOf_98, eX4_reportOf_101, eX4_reportOf_102, eX4_reportOf_103, eX4_reportOf_106, eX4_reportOf_107, eX4_reportOf_108, eX4_reportOf_111, eX4_reportOf_112, eX4_reportOf_113, eX4_reportOf_116, eX4_reportOf_119, eX4_reportOf_120, eX4_reportOf_123, eX4_reportOf_126, eX4_reportOf_129, eX4_reportOf_130, eX4_reportOf_131, eX4_reportOf_134, eX4_reportOf_135, eX4_reportOf_136, eX4_reportOf_139, eX4_reportOf_140, eX4_reportOf_143, eX4_reportOf_144, eX4_reportOf_145, eX4_reportOf_148, eX4_reportOf_151, eX4_reportOf_152, eX4_reportOf_155, eX4_reportOf_156, eX4_reportOf_159, eX4_reportOf_162, eX4_reportOf_165, eX4_reportOf_166, eX4_reportOf_167, eX4_reportOf_170, eX4_reportOf_171, eX4_reportOf_172, eX4_reportOf_175, eX4_reportOf_176, eX4_reportOf_177, eX4_reportOf_180, eX4_reportOf_183, eX4_reportOf_184, eX4_reportOf_185, eX4_reportOf_188, eX4_reportOf_191, eX4_reportOf_192, eX4_reportOf_193, eX4_reportOf_196, eX4_reportOf_199, eX4_reportOf_200, eX4_reportOf_203, eX4_reportOf_204, eX4_reportOf_205, eX4_reportOf_208, one0, and_false, false_and, gk, gr, gi, gs, rv_some, ret_i, ret_n, Option.bind_some, List.cons_append, List.nil_append, z0, z1, zi, zj, i10, i01, true_or, or_true, eq_self, not_false_eq_true, not_true_eq_false, if_true, if_false, ite_not, Decidable.not_not, and_true, true_and, or_false, false_or, Nat.reduceLeDiff, Nat.reduceMod, Nat.reduceEqDiff, ld0 hD, ld1 hD, ld2 hD, ld3 hD, ld4 hD, ld5 hD, ld6 hD, lb0 (ldB hD), lb1 (ldB hD), lb2 (ldB hD), lb3 (ldB hD), lb4 (ldB hD), lb5 (ldB hD), lb6 (ldB hD), lbr hB hr, lbr2 hB hr, ix40 hr, cl40 hr, rbr0 hR hrR, rbr1 hR hrR, rbr2 hR hrR, rbr3 hR hrR, rbr4 hR hrR, rbr5 hR hrR, rbr6 hR hrR, rbr7 hR hrR, rbr8 hR hrR, rbr9 hR hrR, rbr10 hR hrR, rbr11 hR hrR, X1_hasReport_ev hB qR (by omega), ho, X3_hasSeverity_ev hB hr, X1_priceOf_ev hB hR hT.1 hrR, X1_foldedReports_ev hB hR hT (show r < 1000 by omega), J6_bitCount_ev, bc_on q10, bc_on q11, hz, hz0, z0, z1]
theorem re (hcl : Cl F I s nA nH nR n m H) (hFI : FI N s nA nH nR) {r k : Nat} (hrR : r < nR) (hk : k < 13) : pm_ev tb xl xs mX4_reportOf 0 [some (.ref 0), some (.int (nI r)), some (.int (nI k)), none] [] (pm_G F I) = some (some (.int (rV s nR r k)), pm_G F I) := by
  match k, hk with
  | 0, _ => exact re0 hcl hFI hrR
  | 1, _ => exact re1 hcl hFI hrR
  | 2, _ => exact re2 hcl hFI hrR
  | 3, _ => exact re3 hcl hFI hrR
  | 4, _ => exact re4 hcl hFI hrR
  | 5, _ => exact re5 hcl hFI hrR
  | 6, _ => exact re6 hcl hFI hrR
  | 7, _ => exact re7 hcl hFI hrR
  | 8, _ => exact re8 hcl hFI hrR
  | 9, _ => exact re9 hcl hFI hrR
  | 10, _ => exact re10 hcl hFI hrR
  | 11, _ => exact re11 hcl hFI hrR
  | 12, _ => exact re12 hcl hFI hrR
theorem re_out (hcl : Cl F I s nA nH nR n m H) (hFI : FI N s nA nH nR) {v w : Int32} (ho : out v nR) : pm_ev tb xl xs mX4_reportOf 0 [some (.ref 0), some (.int v), some (.int w), none] [] (pm_G F I) = some (some (.int (-10001)), pm_G F I) := by
  have hD := hcl.1
  have hR := hcl.2.1
  have hF4 := hcl.2.2.1
  have hC := hcl.2.2.2
  have hB := ldB hD
  have h6 := hFI.1.1.1.2
  have h8 := hFI.1.1.2.1.2
  have h40 := hFI.1.1.2.2.1.2
  have hnA := hFI.1.1.1.1
  have hnH := hFI.1.1.2.1.1
  have hnR := hFI.1.1.2.2.1.1
  have qA : I 1 3 = nI nA := (rbg3 hR).trans hnA
  have qH : I 1 4 = nI nH := (rbg4 hR).trans hnH
  have qR : I 1 5 = nI nR := (rbg5 hR).trans hnR
  have hrb := hFI.rb
  simp only [eX4_reportOf_0, eX4_reportOf_1, eX4_reportOf_4, eX4_reportOf_5, eX4_reportOf_8, eX4_reportOf_11, eX4_reportOf_14, eX4_reportOf_15, eX4_reportOf_16, eX4_reportOf_19, eX4_reportOf_22, eX4_reportOf_23, eX4_reportOf_24, eX4_reportOf_25, eX4_reportOf_26_c0, eX4_reportOf_26_c1, eX4_reportOf_26_c2, eX4_reportOf_26_c3, eX4_reportOf_26_c4, eX4_reportOf_26_c5, eX4_reportOf_26_c6, eX4_reportOf_26_c7, eX4_reportOf_26_c8, eX4_reportOf_26_c9, eX4_reportOf_26_c10, eX4_reportOf_26_c11, eX4_reportOf_26_c12, eX4_reportOf_26_d, eX4_reportOf_92, eX4_reportOf_93, eX4_reportOf_96, eX4_reportOf_97, eX4_reportOf_98, eX4_reportOf_101, eX4_reportOf_102, eX4_reportOf_103, eX4_reportOf_106, eX4_reportOf_107, eX4_reportOf_108, eX4_reportOf_111, eX4_reportOf_112, eX4_reportOf_113, eX4_reportOf_116, eX4_reportOf_119, eX4_reportOf_120, eX4_reportOf_123, eX4_reportOf_126, eX4_reportOf_129, eX4_reportOf_130, eX4_reportOf_131, eX4_reportOf_134, eX4_reportOf_135, eX4_reportOf_136, eX4_reportOf_139, eX4_reportOf_140, eX4_reportOf_143, eX4_reportOf_144, eX4_reportOf_145, eX4_reportOf_148, eX4_reportOf_151, eX4_reportOf_152, eX4_reportOf_155, eX4_reportOf_156, eX4_reportOf_159, eX4_reportOf_162, eX4_reportOf_165, eX4_reportOf_166, eX4_reportOf_167, eX4_reportOf_170, eX4_reportOf_171, eX4_reportOf_172, eX4_reportOf_175, eX4_reportOf_176, eX4_reportOf_177, eX4_reportOf_180, eX4_reportOf_183, eX4_reportOf_184, eX4_reportOf_185, eX4_reportOf_188, eX4_reportOf_191, eX4_reportOf_192, eX4_reportOf_193, eX4_reportOf_196, eX4_reportOf_199, eX4_reportOf_200, eX4_reportOf_203, eX4_reportOf_204, eX4_reportOf_205, eX4_reportOf_208, one0, and_false, false_and, gk, gr, gi, gs, rv_some, ret_i, ret_n, Option.bind_some, List.cons_append, List.nil_append, z0, z1, zi, zj, i10, i01, true_or, or_true, eq_self, not_false_eq_true, not_true_eq_false, if_true, if_false, ite_not, Decidable.not_not, and_true, true_and, or_false, false_or, Nat.reduceLeDiff, Nat.reduceMod, Nat.reduceEqDiff, ld0 hD, ld1 hD, ld2 hD, ld3 hD, ld4 hD, ld5 hD, ld6 hD, lb0 (ldB hD), lb1 (ldB hD), lb2 (ldB hD), lb3 (ldB hD), lb4 (ldB hD), lb5 (ldB hD), lb6 (ldB hD), X1_hasReport_ev hB qR (by omega), ho]
theorem or_ev (hcl : Cl F I s nA nH nR n m H) (hFI : FI N s nA nH nR) {r : Nat} (hrR : r < nR) : pm_ev tb xl xs mX4_original 0 [some (.ref 0), some (.int (nI r))] [] (pm_G F I) = some (some (.int (origS s r)), pm_G F I) := by
  have hD := hcl.1
  have hR := hcl.2.1
  have hF4 := hcl.2.2.1
  have hC := hcl.2.2.2
  have hB := ldB hD
  have h6 := hFI.1.1.1.2
  have h8 := hFI.1.1.2.1.2
  have h40 := hFI.1.1.2.2.1.2
  have hnA := hFI.1.1.1.1
  have hnH := hFI.1.1.2.1.1
  have hnR := hFI.1.1.2.2.1.1
  have qA : I 1 3 = nI nA := (rbg3 hR).trans hnA
  have qH : I 1 4 = nI nH := (rbg4 hR).trans hnH
  have qR : I 1 5 = nI nR := (rbg5 hR).trans hnR
  have hrb := hFI.rb
  have ho : ¬ out (nI r) nR := in_n hrR (by omega)
  simp only [eX4_original_0, eX4_original_1, eX4_original_4, eX4_original_5, eX4_original_8, eX4_original_11, eX4_original_14, eX4_original_15, eX4_original_16, eX4_original_19, eX4_original_20, eX4_original_23, one0, and_false, false_and, gk, gr, gi, gs, rv_some, ret_i, ret_n, Option.bind_some, List.cons_append, List.nil_append, z0, z1, zi, zj, i10, i01, true_or, or_true, eq_self, not_false_eq_true, not_true_eq_false, if_true, if_false, ite_not, Decidable.not_not, and_true, true_and, or_false, false_or, Nat.reduceLeDiff, Nat.reduceMod, Nat.reduceEqDiff, ld0 hD, ld1 hD, ld2 hD, ld3 hD, ld4 hD, ld5 hD, ld6 hD, lb0 (ldB hD), lb1 (ldB hD), lb2 (ldB hD), lb3 (ldB hD), lb4 (ldB hD), lb5 (ldB hD), lb6 (ldB hD), X1_hasReport_ev hB qR (by omega), ho, X1_foldTarget_ev hB hR hFI.1 hrR]
theorem or_out (hcl : Cl F I s nA nH nR n m H) (hFI : FI N s nA nH nR) {v : Int32} (ho : out v nR) : pm_ev tb xl xs mX4_original 0 [some (.ref 0), some (.int v)] [] (pm_G F I) = some (some (.int (-10001)), pm_G F I) := by
  have hD := hcl.1
  have hR := hcl.2.1
  have hF4 := hcl.2.2.1
  have hC := hcl.2.2.2
  have hB := ldB hD
  have h6 := hFI.1.1.1.2
  have h8 := hFI.1.1.2.1.2
  have h40 := hFI.1.1.2.2.1.2
  have hnA := hFI.1.1.1.1
  have hnH := hFI.1.1.2.1.1
  have hnR := hFI.1.1.2.2.1.1
  have qA : I 1 3 = nI nA := (rbg3 hR).trans hnA
  have qH : I 1 4 = nI nH := (rbg4 hR).trans hnH
  have qR : I 1 5 = nI nR := (rbg5 hR).trans hnR
  have hrb := hFI.rb
  simp only [eX4_original_0, eX4_original_1, eX4_original_4, eX4_original_5, eX4_original_8, eX4_original_11, eX4_original_14, eX4_original_15, eX4_original_16, eX4_original_19, eX4_original_20, eX4_original_23, one0, and_false, false_and, gk, gr, gi, gs, rv_some, ret_i, ret_n, Option.bind_some, List.cons_append, List.nil_append, z0, z1, zi, zj, i10, i01, true_or, or_true, eq_self, not_false_eq_true, not_true_eq_false, if_true, if_false, ite_not, Decidable.not_not, and_true, true_and, or_false, false_or, Nat.reduceLeDiff, Nat.reduceMod, Nat.reduceEqDiff, ld0 hD, ld1 hD, ld2 hD, ld3 hD, ld4 hD, ld5 hD, ld6 hD, lb0 (ldB hD), lb1 (ldB hD), lb2 (ldB hD), lb3 (ldB hD), lb4 (ldB hD), lb5 (ldB hD), lb6 (ldB hD), X1_hasReport_ev hB qR (by omega), ho]
theorem la_ev (hcl : Cl F I s nA nH nR n m H) (hFI : FI N s nA nH nR) (hN : N < 400) : pm_ev tb xl xs mX4_lack 0 [some (.ref 0), none, none] [] (pm_G F I) = some (some (.int (lackS s nA nR)), pm_G F I) := by
  have hD := hcl.1
  have hR := hcl.2.1
  have hF4 := hcl.2.2.1
  have hC := hcl.2.2.2
  have hB := ldB hD
  have h6 := hFI.1.1.1.2
  have h8 := hFI.1.1.2.1.2
  have h40 := hFI.1.1.2.2.1.2
  have hnA := hFI.1.1.1.1
  have hnH := hFI.1.1.2.1.1
  have hnR := hFI.1.1.2.2.1.1
  have qA : I 1 3 = nI nA := (rbg3 hR).trans hnA
  have qH : I 1 4 = nI nH := (rbg4 hR).trans hnH
  have qR : I 1 5 = nI nR := (rbg5 hR).trans hnR
  have hrb := hFI.rb
  obtain ⟨g, hg, hg2⟩ := vp_in_of hFI.2.1.2.1 (by omega)
  have e1 := X4_lack_ev (xl := xl) (xs := xs) hD hR hFI.1 hFI.2 (by omega) hg2 (by omega)
  unfold lackS
  rw [hg2, show tn (nI g) = g from tn_n (by omega)]
  exact e1
/-- cells that hold nothing between calls -/
theorem Cl.off (h : Cl F I s nA nH nR n m H) (hJ : ∀ k, k ≤ 58 ∨ 118 ≤ k ∧ k < 582 → I1 k = I k) : Cl F I1 s nA nH nR n m H := by
  obtain ⟨h1, h2, h3, h4⟩ := h
  refine ⟨h1, h2.to h3.1.1.1.2 h3.1.1.2.1.2 h3.1.1.2.2.1.2 (fun k g1 g2 => hJ k (by omega)) (fun _ _ => rfl), h3, h4.to (hJ 0 (by omega)) (fun k g1 g2 => hJ k (by omega))⟩
/-- the same over more cells -/
theorem Cl.grow {F' : pm_F} (h : Cl F I s nA nH nR n m H) (hD : LD F') (hJ : ∀ k, k < 582 → I1 k = I k) : Cl F' I1 s nA nH nR n m H := by
  obtain ⟨h1, h2, h3, h4⟩ := h
  refine ⟨hD, h2.to h3.1.1.1.2 h3.1.1.2.1.2 h3.1.1.2.2.1.2 (fun k g1 g2 => hJ k (by omega)) (fun _ _ => rfl), h3, h4.to (hJ 0 (by omega)) (fun k g1 g2 => hJ k (by omega))⟩
def bestS (s : St) (nR nH : Nat) (v : Int32) : Int32 := ff (fun i => decide (cntA s nR nH i = v)) 0 nH
theorem be_ev (hcl : Cl F I s nA nH nR n m H) (hFI : FI N s nA nH nR) {v : Int32} (hv : ¬ v < 0) : ∃ I1, pm_ev tb xl xs mX4_best 0 [some (.ref 0), some (.int v), none] [] (pm_G F I) = some (some (.int (bestS s nR nH v)), pm_G F I1) ∧ Cl F I1 s nA nH nR n m H ∧ ∀ k, k ≠ 582 → I1 k = I k := by
  have hD := hcl.1
  have hR := hcl.2.1
  have hF4 := hcl.2.2.1
  have hC := hcl.2.2.2
  have hB := ldB hD
  have h6 := hFI.1.1.1.2
  have h8 := hFI.1.1.2.1.2
  have h40 := hFI.1.1.2.2.1.2
  have hnA := hFI.1.1.1.1
  have hnH := hFI.1.1.2.1.1
  have hnR := hFI.1.1.2.2.1.1
  have qA : I 1 3 = nI nA := (rbg3 hR).trans hnA
  have qH : I 1 4 = nI nH := (rbg4 hR).trans hnH
  have qR : I 1 5 = nI nR := (rbg5 hR).trans hnR
  have hrb := hFI.rb
  obtain ⟨p, e1⟩ := X4_best_ev (xl := xl) (xs := xs) hD hR hFI.1 hv
  exact ⟨row I 582 p, e1, hcl.off (fun k hk => row_n (by omega)), fun k hk => row_n hk⟩
theorem be_neg : pm_ev tb xl xs mX4_best 0 [some (.ref 0), some (.int (-1)), none] [] (pm_G F I) = some (some (.int (-10001)), pm_G F I) := by
  have hv : (-1 : Int32) < 0 := by decide
  simp only [eX4_best_0, eX4_best_1, eX4_best_4, eX4_best_7, eX4_best_8, eX4_best_9, eX4_best_11, eX4_best_12, eX4_best_15, eX4_best_18, eX4_best_21, eX4_best_22, eX4_best_25, eX4_best_26, eX4_best_27, eX4_best_30, eX4_best_31, eX4_best_34, eX4_best_35, eX4_best_38, eX4_best_41, eX4_best_42, eX4_best_44, eX4_best_45, eX4_best_48, eX4_best_51, eX4_best_54, eX4_best_55, eX4_best_56, eX4_best_59, eX4_best_60, eX4_best_63, eX4_best_64, eX4_best_65, eX4_best_68, eX4_best_71, eX4_best_74, one0, and_false, false_and, gk, gr, gi, gs, rv_some, ret_i, ret_n, Option.bind_some, List.cons_append, List.nil_append, z0, z1, zi, zj, i10, i01, true_or, or_true, eq_self, not_false_eq_true, not_true_eq_false, if_true, if_false, ite_not, Decidable.not_not, and_true, true_and, or_false, false_or, Nat.reduceLeDiff, Nat.reduceMod, Nat.reduceEqDiff, hv]
theorem pi_ev (hcl : Cl F I s nA nH nR n m H) (hFI : FI N s nA nH nR) {r d : Nat} (hrR : r < nR) (h2 : rp s r 3 = 2) (hd : gp s 0 = nI d) (hd2 : d < 10000) : ∃ I1, pm_ev tb xl xs mX4_paidIn 0 [some (.ref 0), some (.int (nI r)), none, none] [] (pm_G F I) = some (some (.int (pIn nA nR r 12 (90 - d % 90) s)), pm_G F I1) ∧ Cl F I1 s nA nH nR n m H ∧ ∀ k, 582 ≤ k → I1 k = I k := by
  have hD := hcl.1
  have hR := hcl.2.1
  have hF4 := hcl.2.2.1
  have hC := hcl.2.2.2
  have hB := ldB hD
  have h6 := hFI.1.1.1.2
  have h8 := hFI.1.1.2.1.2
  have h40 := hFI.1.1.2.2.1.2
  have hnA := hFI.1.1.1.1
  have hnH := hFI.1.1.2.1.1
  have hnR := hFI.1.1.2.2.1.1
  have qA : I 1 3 = nI nA := (rbg3 hR).trans hnA
  have qH : I 1 4 = nI nH := (rbg4 hR).trans hnH
  have qR : I 1 5 = nI nR := (rbg5 hR).trans hnR
  have hrb := hFI.rb
  obtain ⟨J, e1, hFJ⟩ := X4_paidIn_ev (xl := xl) (xs := xs) hD hR hFI.1 hrR h2 hd hd2
  exact ⟨J, e1, hcl.off (fun k hk => hFJ k (by omega)), fun k hk => hFJ k (by omega)⟩
theorem pi_no (hcl : Cl F I s nA nH nR n m H) (hFI : FI N s nA nH nR) {r : Nat} (hrR : r < nR) (h2 : ¬ rp s r 3 = 2) : pm_ev tb xl xs mX4_paidIn 0 [some (.ref 0), some (.int (nI r)), none, none] [] (pm_G F I) = some (some (.int (-10002)), pm_G F I) := by
  have hD := hcl.1
  have hR := hcl.2.1
  have hF4 := hcl.2.2.1
  have hC := hcl.2.2.2
  have hB := ldB hD
  have h6 := hFI.1.1.1.2
  have h8 := hFI.1.1.2.1.2
  have h40 := hFI.1.1.2.2.1.2
  have hnA := hFI.1.1.1.1
  have hnH := hFI.1.1.2.1.1
  have hnR := hFI.1.1.2.2.1.1
  have qA : I 1 3 = nI nA := (rbg3 hR).trans hnA
  have qH : I 1 4 = nI nH := (rbg4 hR).trans hnH
  have qR : I 1 5 = nI nR := (rbg5 hR).trans hnR
  have hrb := hFI.rb
  have ho : ¬ out (nI r) nR := in_n hrR (by omega)
  have hr : r < 40 := by omega
  simp only [eX4_paidIn_0, eX4_paidIn_1, eX4_paidIn_4, eX4_paidIn_5, eX4_paidIn_8, eX4_paidIn_11, eX4_paidIn_14, eX4_paidIn_15, eX4_paidIn_16, eX4_paidIn_19, eX4_paidIn_22, eX4_paidIn_23, eX4_paidIn_24, eX4_paidIn_27, eX4_paidIn_28, eX4_paidIn_31, eX4_paidIn_34, eX4_paidIn_35, eX4_paidIn_36, eX4_paidIn_39, eX4_paidIn_40, eX4_paidIn_43, eX4_paidIn_46, eX4_paidIn_47, eX4_paidIn_50, eX4_paidIn_53, eX4_paidIn_55, eX4_paidIn_56, eX4_paidIn_57, eX4_paidIn_58, eX4_paidIn_60, eX4_paidIn_62, eX4_paidIn_65, eX4_paidIn_66, eX4_paidIn_69, eX4_paidIn_72, eX4_paidIn_73, eX4_paidIn_74, eX4_paidIn_77, eX4_paidIn_80, eX4_paidIn_81, eX4_paidIn_82, eX4_paidIn_85, eX4_paidIn_86, eX4_paidIn_89, eX4_paidIn_90, eX4_paidIn_91, eX4_paidIn_92, eX4_paidIn_94, eX4_paidIn_95, eX4_paidIn_96, eX4_paidIn_99, eX4_paidIn_102, eX4_paidIn_103, eX4_paidIn_104, eX4_paidIn_107, eX4_paidIn_110, eX4_paidIn_113, one0, and_false, false_and, gk, gr, gi, gs, rv_some, ret_i, ret_n, Option.bind_some, List.cons_append, List.nil_append, z0, z1, zi, zj, i10, i01, true_or, or_true, eq_self, not_false_eq_true, not_true_eq_false, if_true, if_false, ite_not, Decidable.not_not, and_true, true_and, or_false, false_or, Nat.reduceLeDiff, Nat.reduceMod, Nat.reduceEqDiff, ld0 hD, ld1 hD, ld2 hD, ld3 hD, ld4 hD, ld5 hD, ld6 hD, lb0 (ldB hD), lb1 (ldB hD), lb2 (ldB hD), lb3 (ldB hD), lb4 (ldB hD), lb5 (ldB hD), lb6 (ldB hD), lbr hB hr, lbr2 hB hr, ix40 hr, cl40 hr, rbr3 hR hrR, X1_hasReport_ev hB qR (by omega), ho, h2]
theorem pi_out (hcl : Cl F I s nA nH nR n m H) (hFI : FI N s nA nH nR) {v : Int32} (ho : out v nR) : pm_ev tb xl xs mX4_paidIn 0 [some (.ref 0), some (.int v), none, none] [] (pm_G F I) = some (some (.int (-10001)), pm_G F I) := by
  have hD := hcl.1
  have hR := hcl.2.1
  have hF4 := hcl.2.2.1
  have hC := hcl.2.2.2
  have hB := ldB hD
  have h6 := hFI.1.1.1.2
  have h8 := hFI.1.1.2.1.2
  have h40 := hFI.1.1.2.2.1.2
  have hnA := hFI.1.1.1.1
  have hnH := hFI.1.1.2.1.1
  have hnR := hFI.1.1.2.2.1.1
  have qA : I 1 3 = nI nA := (rbg3 hR).trans hnA
  have qH : I 1 4 = nI nH := (rbg4 hR).trans hnH
  have qR : I 1 5 = nI nR := (rbg5 hR).trans hnR
  have hrb := hFI.rb
  simp only [eX4_paidIn_0, eX4_paidIn_1, eX4_paidIn_4, eX4_paidIn_5, eX4_paidIn_8, eX4_paidIn_11, eX4_paidIn_14, eX4_paidIn_15, eX4_paidIn_16, eX4_paidIn_19, eX4_paidIn_22, eX4_paidIn_23, eX4_paidIn_24, eX4_paidIn_27, eX4_paidIn_28, eX4_paidIn_31, eX4_paidIn_34, eX4_paidIn_35, eX4_paidIn_36, eX4_paidIn_39, eX4_paidIn_40, eX4_paidIn_43, eX4_paidIn_46, eX4_paidIn_47, eX4_paidIn_50, eX4_paidIn_53, eX4_paidIn_55, eX4_paidIn_56, eX4_paidIn_57, eX4_paidIn_58, eX4_paidIn_60, eX4_paidIn_62, eX4_paidIn_65, eX4_paidIn_66, eX4_paidIn_69, eX4_paidIn_72, eX4_paidIn_73, eX4_paidIn_74, eX4_paidIn_77, eX4_paidIn_80, eX4_paidIn_81, eX4_paidIn_82, eX4_paidIn_85, eX4_paidIn_86, eX4_paidIn_89, eX4_paidIn_90, eX4_paidIn_91, eX4_paidIn_92, eX4_paidIn_94, eX4_paidIn_95, eX4_paidIn_96, eX4_paidIn_99, eX4_paidIn_102, eX4_paidIn_103, eX4_paidIn_104, eX4_paidIn_107, eX4_paidIn_110, eX4_paidIn_113, one0, and_false, false_and, gk, gr, gi, gs, rv_some, ret_i, ret_n, Option.bind_some, List.cons_append, List.nil_append, z0, z1, zi, zj, i10, i01, true_or, or_true, eq_self, not_false_eq_true, not_true_eq_false, if_true, if_false, ite_not, Decidable.not_not, and_true, true_and, or_false, false_or, Nat.reduceLeDiff, Nat.reduceMod, Nat.reduceEqDiff, ld0 hD, ld1 hD, ld2 hD, ld3 hD, ld4 hD, ld5 hD, ld6 hD, lb0 (ldB hD), lb1 (ldB hD), lb2 (ldB hD), lb3 (ldB hD), lb4 (ldB hD), lb5 (ldB hD), lb6 (ldB hD), X1_hasReport_ev hB qR (by omega), ho]
end LOOK
