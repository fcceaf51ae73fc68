/-! the model's methods: those that write -/
section MOD3
variable {xl : Nat} {xs : Nat → Int32} {F : pm_F} {I : Nat → Nat → Int32} {o : Nat} {s : St} {nA nH nR : Nat}
theorem sha_stop {r : Nat} {p : Int32} {x : St × Int32 × Int32} (h : ¬ x.2.2 < 3) : ∀ k i, lp (shaG r p) i k x = x := by
  intro k
  induction k with
  | zero => intro i; rfl
  | succ k ih =>
    intro i
    show lp (shaG r p) (i + 1) k (shaG r p i x) = x
    rw [show shaG r p i x = x from if_neg (fun q => h q.1)]
    exact ih (i + 1)
theorem Ty.give (h : Ty s nA nH nR) {a : Nat} (ha : a < 8) {v : Int32} : Ty (giveS s a v) nA nH nR := h.sH ha (by omega)
theorem Ty.sha {r : Nat} {p : Int32} {i : Nat} (hi : i < nR) {x : St × Int32 × Int32} (h : Ty x.1 nA nH nR) : Ty (shaG r p i x).1 nA nH nR := by
  unfold shaG
  split
  · obtain ⟨a, ha, -, ht⟩ := vin (h.2.2.2 i hi).1 (by have := h.2.1.2; omega)
    dsimp only
    rw [ht]
    exact h.give (by have := h.2.1.2; omega)
  · exact h
theorem Ty.shas {r : Nat} {p : Int32} : ∀ (k i : Nat) (x : St × Int32 × Int32), i + k = nR → Ty x.1 nA nH nR → Ty (lp (shaG r p) i k x).1 nA nH nR :=
  fun k i x hk h => lp_inv (fun _ (x : St × Int32 × Int32) => Ty x.1 nA nH nR) (shaG r p) nR (fun i x hi h => Ty.sha hi h) k i x hk h
theorem Ty.payB (h : Ty s nA nH nR) {r : Nat} {p : Int32} (hr : r < nR) : Ty (payB s nR r p) nA nH nR := by
  have h1 := Ty.shas (r := r) (p := p) nR 0 (s, p, 0) (by omega) h
  obtain ⟨a, ha, -, ht⟩ := vin (h1.2.2.2 r hr).1 (by have := h.2.1.2; omega)
  show Ty (giveS _ (tn _) _) nA nH nR
  rw [ht]
  exact h1.give (by have := h.2.1.2; omega)
theorem X5_pays_loop (hM : LM F o) {r : Nat} (hr : r < nR) {p q w : Int32} : ∀ (k i : Nat) (x : St × Int32 × Int32), i + k = nR → Ty x.1 nA nH nR →
    pm_ev tb xl xs mX5_pays 126 [some (.ref o), some (.int (nI r)), some (.int p), some (.int q), some (.int w), some (.int x.2.1), some (.int x.2.2), some (.int (nI i))] [] (pm_G F (row I (o + 1) x.1)) = some (some (.int p), pm_G F (row I (o + 1) (giveS (lp (shaG r p) i k x).1 (tn (rp (lp (shaG r p) i k x).1 r 0)) (lp (shaG r p) i k x).2.1))) := by
  have exit : ∀ (i : Nat) (x : St × Int32 × Int32), Ty x.1 nA nH nR → pm_ev tb xl xs mX5_pays 199 [some (.ref o), some (.int (nI r)), some (.int p), some (.int q), some (.int w), some (.int x.2.1), some (.int x.2.2), some (.int (nI i))] [] (pm_G F (row I (o + 1) x.1)) = some (some (.int p), pm_G F (row I (o + 1) (giveS x.1 (tn (rp x.1 r 0)) x.2.1))) := by
    intro i x hT
    obtain ⟨⟨-, hA6⟩, ⟨-, hH8⟩, ⟨hn, h40⟩, hTr⟩ := hT
    have hr2 : r < 40 := by omega
    obtain ⟨a, ha, hra, ht⟩ := vin (hTr r hr).1 (by omega)
    simp only [eX5_pays_0, eX5_pays_1, eX5_pays_2, eX5_pays_5, eX5_pays_6, eX5_pays_7, eX5_pays_8, eX5_pays_9, eX5_pays_12, eX5_pays_13, eX5_pays_16, eX5_pays_17, eX5_pays_18, eX5_pays_21, eX5_pays_22, eX5_pays_23, eX5_pays_24, eX5_pays_27, eX5_pays_28, eX5_pays_29, eX5_pays_30, eX5_pays_31, eX5_pays_34, eX5_pays_35, eX5_pays_38, eX5_pays_39, eX5_pays_40, eX5_pays_43, eX5_pays_44, eX5_pays_45, eX5_pays_46, eX5_pays_47, eX5_pays_48, eX5_pays_51, eX5_pays_52, eX5_pays_53, eX5_pays_54, eX5_pays_57, eX5_pays_59, eX5_pays_60, eX5_pays_63, eX5_pays_64, eX5_pays_65, eX5_pays_66, eX5_pays_68, eX5_pays_69, eX5_pays_70, eX5_pays_71, eX5_pays_74, eX5_pays_75, eX5_pays_76, eX5_pays_77, eX5_pays_78, eX5_pays_80, eX5_pays_81, eX5_pays_82, eX5_pays_83, eX5_pays_84, eX5_pays_87, eX5_pays_89, eX5_pays_90, eX5_pays_91, eX5_pays_92, eX5_pays_93, eX5_pays_94, eX5_pays_95, eX5_pays_98, eX5_pays_99, eX5_pays_100, eX5_pays_103, eX5_pays_104, eX5_pays_105, eX5_pays_106, eX5_pays_109, eX5_pays_110, eX5_pays_112, eX5_pays_115, eX5_pays_116, eX5_pays_117, eX5_pays_118, eX5_pays_120, eX5_pays_121, eX5_pays_123, eX5_pays_124, eX5_pays_128, eX5_pays_129, eX5_pays_132, eX5_pays_134, eX5_pays_135, eX5_pays_138, eX5_pays_140, eX5_pays_141, eX5_pays_144, eX5_pays_145, eX5_pays_147, eX5_pays_148, eX5_pays_151, eX5_pays_152, eX5_pays_155, eX5_pays_156, eX5_pays_158, eX5_pays_159, eX5_pays_162, eX5_pays_163, eX5_pays_166, eX5_pays_167, eX5_pays_168, eX5_pays_170, eX5_pays_171, eX5_pays_174, eX5_pays_175, eX5_pays_177, eX5_pays_178, eX5_pays_181, eX5_pays_183, eX5_pays_184, eX5_pays_186, eX5_pays_187, eX5_pays_188, eX5_pays_190, eX5_pays_193, eX5_pays_196, eX5_pays_199, eX5_pays_200, eX5_pays_201, eX5_pays_202, eX5_pays_203, eX5_pays_206, eX5_pays_208, eX5_pays_211, eX5_pays_212, one0, gk, gr, gj, gw, rv_some, ret_i, ret_n, Option.bind_some, List.cons_append, List.nil_append, z0, z1, zi, zj, i10, i01, row_s, row_row, true_or, or_true, eq_self, not_false_eq_true, not_true_eq_false, if_true, if_false, ite_not, Decidable.not_not, and_true, true_and, or_false, false_or, lm0 hM, lm1 hM, lm5 hM, X5_of_ev0 hM, X5_of_ev1 hM, X5_of_ev2 hM, X5_of_ev3 hM, X5_of_ev4 hM, X5_of_ev5 hM, X5_of_ev6 hM, X5_of_ev7 hM, X5_of_ev8 hM, X5_of_ev9 hM, X5_of_ev10 hM, X5_of_ev11 hM, hr2, hra, ht, X5_gives_ev hM (show a < 8 by omega), tn_n (show a < 2147483648 by omega)]
  intro k
  induction k with
  | zero =>
    intro i x hi hT
    obtain rfl : i = nR := by omega
    rw [eX5_pays_126]
    simp only [eX5_pays_0, eX5_pays_1, eX5_pays_2, eX5_pays_5, eX5_pays_6, eX5_pays_7, eX5_pays_8, eX5_pays_9, eX5_pays_12, eX5_pays_13, eX5_pays_16, eX5_pays_17, eX5_pays_18, eX5_pays_21, eX5_pays_22, eX5_pays_23, eX5_pays_24, eX5_pays_27, eX5_pays_28, eX5_pays_29, eX5_pays_30, eX5_pays_31, eX5_pays_34, eX5_pays_35, eX5_pays_38, eX5_pays_39, eX5_pays_40, eX5_pays_43, eX5_pays_44, eX5_pays_45, eX5_pays_46, eX5_pays_47, eX5_pays_48, eX5_pays_51, eX5_pays_52, eX5_pays_53, eX5_pays_54, eX5_pays_57, eX5_pays_59, eX5_pays_60, eX5_pays_63, eX5_pays_64, eX5_pays_65, eX5_pays_66, eX5_pays_68, eX5_pays_69, eX5_pays_70, eX5_pays_71, eX5_pays_74, eX5_pays_75, eX5_pays_76, eX5_pays_77, eX5_pays_78, eX5_pays_80, eX5_pays_81, eX5_pays_82, eX5_pays_83, eX5_pays_84, eX5_pays_87, eX5_pays_89, eX5_pays_90, eX5_pays_91, eX5_pays_92, eX5_pays_93, eX5_pays_94, eX5_pays_95, eX5_pays_98, eX5_pays_99, eX5_pays_100, eX5_pays_103, eX5_pays_104, eX5_pays_105, eX5_pays_106, eX5_pays_109, eX5_pays_110, eX5_pays_112, eX5_pays_115, eX5_pays_116, eX5_pays_117, eX5_pays_118, eX5_pays_120, eX5_pays_121, eX5_pays_123, eX5_pays_124, eX5_pays_128, eX5_pays_129, eX5_pays_132, eX5_pays_134, eX5_pays_135, eX5_pays_138, eX5_pays_140, eX5_pays_141, eX5_pays_144, eX5_pays_145, eX5_pays_147, eX5_pays_148, eX5_pays_151, eX5_pays_152, eX5_pays_155, eX5_pays_156, eX5_pays_158, eX5_pays_159, eX5_pays_162, eX5_pays_163, eX5_pays_166, eX5_pays_167, eX5_pays_168, eX5_pays_170, eX5_pays_171, eX5_pays_174, eX5_pays_175, eX5_pays_177, eX5_pays_178, eX5_pays_181, eX5_pays_183, eX5_pays_184, eX5_pays_186, eX5_pays_187, eX5_pays_188, eX5_pays_190, eX5_pays_193, eX5_pays_196, eX5_pays_200, eX5_pays_201, eX5_pays_202, eX5_pays_203, eX5_pays_206, eX5_pays_208, eX5_pays_211, eX5_pays_212, one0, gk, gr, gj, gw, rv_some, ret_i, ret_n, Option.bind_some, List.cons_append, List.nil_append, z0, z1, zi, zj, i10, i01, row_s, row_row, true_or, or_true, eq_self, not_false_eq_true, not_true_eq_false, if_true, if_false, ite_not, Decidable.not_not, and_true, true_and, or_false, false_or, lm0 hM, lm1 hM, lm5 hM, ixG0, ixG1, ixG2, ixG3, ixG4, ixG5, ixG6, ixG7, ixG8, clG0, clG1, clG2, clG3, clG4, clG5, clG6, clG7, clG8, rdG0, rdG1, rdG2, rdG3, rdG4, rdG5, rdG6, rdG7, rdG8, wrG0, wrG1, wrG2, wrG3, wrG4, wrG5, wrG6, wrG7, wrG8, hT.2.2.1.1, lt_f (Nat.le_refl i) (by have := hT.2.2.1.2; omega), lp]
    exact exit i x hT
  | succ k ih =>
    intro i x hi hT
    have hi2 : i < nR := by omega
    have h1 := hT.2.2.1.2
    have hi3 : i < 40 := by omega
    have hr2 : r < 40 := by omega
    rw [eX5_pays_126]
    by_cases h3 : x.2.2 < 3
    · obtain ⟨a, ha, hra, ht⟩ := vin (hT.2.2.2 i hi2).1 (by have := hT.2.1.2; omega)
      have ha8 : a < 8 := by have := hT.2.1.2; omega
      have ih2 := ih (i + 1) (shaG r p i x) (by omega) (Ty.sha hi2 hT)
      simp only [eX5_pays_0, eX5_pays_1, eX5_pays_2, eX5_pays_5, eX5_pays_6, eX5_pays_7, eX5_pays_8, eX5_pays_9, eX5_pays_12, eX5_pays_13, eX5_pays_16, eX5_pays_17, eX5_pays_18, eX5_pays_21, eX5_pays_22, eX5_pays_23, eX5_pays_24, eX5_pays_27, eX5_pays_28, eX5_pays_29, eX5_pays_30, eX5_pays_31, eX5_pays_34, eX5_pays_35, eX5_pays_38, eX5_pays_39, eX5_pays_40, eX5_pays_43, eX5_pays_44, eX5_pays_45, eX5_pays_46, eX5_pays_47, eX5_pays_48, eX5_pays_51, eX5_pays_52, eX5_pays_53, eX5_pays_54, eX5_pays_57, eX5_pays_59, eX5_pays_60, eX5_pays_63, eX5_pays_64, eX5_pays_65, eX5_pays_66, eX5_pays_68, eX5_pays_69, eX5_pays_70, eX5_pays_71, eX5_pays_74, eX5_pays_75, eX5_pays_76, eX5_pays_77, eX5_pays_78, eX5_pays_80, eX5_pays_81, eX5_pays_82, eX5_pays_83, eX5_pays_84, eX5_pays_87, eX5_pays_89, eX5_pays_90, eX5_pays_91, eX5_pays_92, eX5_pays_93, eX5_pays_94, eX5_pays_95, eX5_pays_98, eX5_pays_99, eX5_pays_100, eX5_pays_103, eX5_pays_104, eX5_pays_105, eX5_pays_106, eX5_pays_109, eX5_pays_110, eX5_pays_112, eX5_pays_115, eX5_pays_116, eX5_pays_117, eX5_pays_118, eX5_pays_120, eX5_pays_121, eX5_pays_123, eX5_pays_124, eX5_pays_128, eX5_pays_129, eX5_pays_132, eX5_pays_134, eX5_pays_135, eX5_pays_138, eX5_pays_140, eX5_pays_141, eX5_pays_144, eX5_pays_145, eX5_pays_147, eX5_pays_148, eX5_pays_151, eX5_pays_152, eX5_pays_155, eX5_pays_156, eX5_pays_158, eX5_pays_159, eX5_pays_162, eX5_pays_163, eX5_pays_166, eX5_pays_167, eX5_pays_168, eX5_pays_170, eX5_pays_171, eX5_pays_174, eX5_pays_175, eX5_pays_177, eX5_pays_178, eX5_pays_181, eX5_pays_183, eX5_pays_184, eX5_pays_186, eX5_pays_187, eX5_pays_188, eX5_pays_190, eX5_pays_193, eX5_pays_196, eX5_pays_200, eX5_pays_201, eX5_pays_202, eX5_pays_203, eX5_pays_206, eX5_pays_208, eX5_pays_211, eX5_pays_212, one0, gk, gr, gj, gw, rv_some, ret_i, ret_n, Option.bind_some, List.cons_append, List.nil_append, z0, z1, zi, zj, i10, i01, row_s, row_row, true_or, or_true, eq_self, not_false_eq_true, not_true_eq_false, if_true, if_false, ite_not, Decidable.not_not, and_true, true_and, or_false, false_or, lm0 hM, lm1 hM, lm5 hM, ixG0, ixG1, ixG2, ixG3, ixG4, ixG5, ixG6, ixG7, ixG8, clG0, clG1, clG2, clG3, clG4, clG5, clG6, clG7, clG8, rdG0, rdG1, rdG2, rdG3, rdG4, rdG5, rdG6, rdG7, rdG8, wrG0, wrG1, wrG2, wrG3, wrG4, wrG5, wrG6, wrG7, wrG8, X5_of_ev0 hM, X5_of_ev1 hM, X5_of_ev2 hM, X5_of_ev3 hM, X5_of_ev4 hM, X5_of_ev5 hM, X5_of_ev6 hM, X5_of_ev7 hM, X5_of_ev8 hM, X5_of_ev9 hM, X5_of_ev10 hM, X5_of_ev11 hM, hT.2.2.1.1, lt_t hi2 (by omega), h3, hi3, d10, hra, X5_gives_ev hM ha8, nI_1, lp]
      by_cases h4 : rp x.1 i 3 = 5
      · by_cases h5 : rp x.1 i 5 = nI r
        · rw [if_pos h4, if_pos h5]
          have e : shaG r p i x = (giveS x.1 a (p / 10), x.2.1 - p / 10, x.2.2 + 1) := by
            unfold shaG
            rw [if_pos ⟨h3, h4, h5⟩, ht]
          rw [e] at ih2 ⊢
          exact ih2
        · rw [if_pos h4, if_neg h5]
          have e : shaG r p i x = x := if_neg (fun q => h5 q.2.2)
          rw [e] at ih2 ⊢
          exact ih2
      · rw [if_neg h4]
        have e : shaG r p i x = x := if_neg (fun q => h4 q.2.1)
        rw [e] at ih2 ⊢
        exact ih2
    · rw [sha_stop h3]
      simp only [eX5_pays_0, eX5_pays_1, eX5_pays_2, eX5_pays_5, eX5_pays_6, eX5_pays_7, eX5_pays_8, eX5_pays_9, eX5_pays_12, eX5_pays_13, eX5_pays_16, eX5_pays_17, eX5_pays_18, eX5_pays_21, eX5_pays_22, eX5_pays_23, eX5_pays_24, eX5_pays_27, eX5_pays_28, eX5_pays_29, eX5_pays_30, eX5_pays_31, eX5_pays_34, eX5_pays_35, eX5_pays_38, eX5_pays_39, eX5_pays_40, eX5_pays_43, eX5_pays_44, eX5_pays_45, eX5_pays_46, eX5_pays_47, eX5_pays_48, eX5_pays_51, eX5_pays_52, eX5_pays_53, eX5_pays_54, eX5_pays_57, eX5_pays_59, eX5_pays_60, eX5_pays_63, eX5_pays_64, eX5_pays_65, eX5_pays_66, eX5_pays_68, eX5_pays_69, eX5_pays_70, eX5_pays_71, eX5_pays_74, eX5_pays_75, eX5_pays_76, eX5_pays_77, eX5_pays_78, eX5_pays_80, eX5_pays_81, eX5_pays_82, eX5_pays_83, eX5_pays_84, eX5_pays_87, eX5_pays_89, eX5_pays_90, eX5_pays_91, eX5_pays_92, eX5_pays_93, eX5_pays_94, eX5_pays_95, eX5_pays_98, eX5_pays_99, eX5_pays_100, eX5_pays_103, eX5_pays_104, eX5_pays_105, eX5_pays_106, eX5_pays_109, eX5_pays_110, eX5_pays_112, eX5_pays_115, eX5_pays_116, eX5_pays_117, eX5_pays_118, eX5_pays_120, eX5_pays_121, eX5_pays_123, eX5_pays_124, eX5_pays_128, eX5_pays_129, eX5_pays_132, eX5_pays_134, eX5_pays_135, eX5_pays_138, eX5_pays_140, eX5_pays_141, eX5_pays_144, eX5_pays_145, eX5_pays_147, eX5_pays_148, eX5_pays_151, eX5_pays_152, eX5_pays_155, eX5_pays_156, eX5_pays_158, eX5_pays_159, eX5_pays_162, eX5_pays_163, eX5_pays_166, eX5_pays_167, eX5_pays_168, eX5_pays_170, eX5_pays_171, eX5_pays_174, eX5_pays_175, eX5_pays_177, eX5_pays_178, eX5_pays_181, eX5_pays_183, eX5_pays_184, eX5_pays_186, eX5_pays_187, eX5_pays_188, eX5_pays_190, eX5_pays_193, eX5_pays_196, eX5_pays_200, eX5_pays_201, eX5_pays_202, eX5_pays_203, eX5_pays_206, eX5_pays_208, eX5_pays_211, eX5_pays_212, one0, gk, gr, gj, gw, rv_some, ret_i, ret_n, Option.bind_some, List.cons_append, List.nil_append, z0, z1, zi, zj, i10, i01, row_s, row_row, true_or, or_true, eq_self, not_false_eq_true, not_true_eq_false, if_true, if_false, ite_not, Decidable.not_not, and_true, true_and, or_false, false_or, lm0 hM, lm1 hM, lm5 hM, ixG0, ixG1, ixG2, ixG3, ixG4, ixG5, ixG6, ixG7, ixG8, clG0, clG1, clG2, clG3, clG4, clG5, clG6, clG7, clG8, rdG0, rdG1, rdG2, rdG3, rdG4, rdG5, rdG6, rdG7, rdG8, wrG0, wrG1, wrG2, wrG3, wrG4, wrG5, wrG6, wrG7, wrG8, hT.2.2.1.1, lt_t hi2 (by omega), h3]
      exact exit i x hT
theorem X5_pays_ev (hM : LM F o) (hT : Ty s nA nH nR) {r : Nat} (hrR : r < nR) : pm_ev tb xl xs mX5_pays 0 [some (.ref o), some (.int (nI r)), none, none, none, none, none, none] [] (pm_G F (row I (o + 1) s)) = some (some (.int (paysS s nR r).2), pm_G F (row I (o + 1) (paysS s nR r).1)) := by
  have h40 := hT.2.2.1.2
  have hr : r < 40 := by omega
  obtain ⟨a, haA, hra, ht⟩ := vin (hT.2.2.2 r hrR).2 (by have := hT.1.2; omega)
  have ha : a < 6 := by have := hT.1.2; omega
  have key := fun (x : St × Int32 × Int32) (q w : Int32) => X5_pays_loop (xl := xl) (xs := xs) (F := F) (I := I) (o := o) (nA := nA) (nH := nH) hM hrR (p := price s r) (q := q) (w := w) nR 0 x (by omega)
  simp only [eX5_pays_0, eX5_pays_1, eX5_pays_2, eX5_pays_5, eX5_pays_6, eX5_pays_7, eX5_pays_8, eX5_pays_9, eX5_pays_12, eX5_pays_13, eX5_pays_16, eX5_pays_17, eX5_pays_18, eX5_pays_21, eX5_pays_22, eX5_pays_23, eX5_pays_24, eX5_pays_27, eX5_pays_28, eX5_pays_29, eX5_pays_30, eX5_pays_31, eX5_pays_34, eX5_pays_35, eX5_pays_38, eX5_pays_39, eX5_pays_40, eX5_pays_43, eX5_pays_44, eX5_pays_45, eX5_pays_46, eX5_pays_47, eX5_pays_48, eX5_pays_51, eX5_pays_52, eX5_pays_53, eX5_pays_54, eX5_pays_57, eX5_pays_59, eX5_pays_60, eX5_pays_63, eX5_pays_64, eX5_pays_65, eX5_pays_66, eX5_pays_68, eX5_pays_69, eX5_pays_70, eX5_pays_71, eX5_pays_74, eX5_pays_75, eX5_pays_76, eX5_pays_77, eX5_pays_78, eX5_pays_80, eX5_pays_81, eX5_pays_82, eX5_pays_83, eX5_pays_84, eX5_pays_87, eX5_pays_89, eX5_pays_90, eX5_pays_91, eX5_pays_92, eX5_pays_93, eX5_pays_94, eX5_pays_95, eX5_pays_98, eX5_pays_99, eX5_pays_100, eX5_pays_103, eX5_pays_104, eX5_pays_105, eX5_pays_106, eX5_pays_109, eX5_pays_110, eX5_pays_112, eX5_pays_115, eX5_pays_116, eX5_pays_117, eX5_pays_118, eX5_pays_120, eX5_pays_121, eX5_pays_123, eX5_pays_124, eX5_pays_128, eX5_pays_129, eX5_pays_132, eX5_pays_134, eX5_pays_135, eX5_pays_138, eX5_pays_140, eX5_pays_141, eX5_pays_144, eX5_pays_145, eX5_pays_147, eX5_pays_148, eX5_pays_151, eX5_pays_152, eX5_pays_155, eX5_pays_156, eX5_pays_158, eX5_pays_159, eX5_pays_162, eX5_pays_163, eX5_pays_166, eX5_pays_167, eX5_pays_168, eX5_pays_170, eX5_pays_171, eX5_pays_174, eX5_pays_175, eX5_pays_177, eX5_pays_178, eX5_pays_181, eX5_pays_183, eX5_pays_184, eX5_pays_186, eX5_pays_187, eX5_pays_188, eX5_pays_190, eX5_pays_193, eX5_pays_196, eX5_pays_199, eX5_pays_200, eX5_pays_201, eX5_pays_202, eX5_pays_203, eX5_pays_206, eX5_pays_208, eX5_pays_211, eX5_pays_212, one0, gk, gr, gj, gw, rv_some, ret_i, ret_n, Option.bind_some, List.cons_append, List.nil_append, z0, z1, zi, zj, i10, i01, row_s, row_row, true_or, or_true, eq_self, not_false_eq_true, not_true_eq_false, if_true, if_false, ite_not, Decidable.not_not, and_true, true_and, or_false, false_or, lm0 hM, lm1 hM, lm5 hM, ixG0, ixG1, ixG2, ixG3, ixG4, ixG5, ixG6, ixG7, ixG8, clG0, clG1, clG2, clG3, clG4, clG5, clG6, clG7, clG8, rdG0, rdG1, rdG2, rdG3, rdG4, rdG5, rdG6, rdG7, rdG8, wrG0, wrG1, wrG2, wrG3, wrG4, wrG5, wrG6, wrG7, wrG8, X5_of_ev0 hM, X5_of_ev1 hM, X5_of_ev2 hM, X5_of_ev3 hM, X5_of_ev4 hM, X5_of_ev5 hM, X5_of_ev6 hM, X5_of_ev7 hM, X5_of_ev8 hM, X5_of_ev9 hM, X5_of_ev10 hM, X5_of_ev11 hM, X5_atAsset_ev0, X5_atAsset_ev1, X5_atAsset_ev2, X5_at_ev0, X5_at_ev1, X5_at_ev2, X5_at_ev3, X5_at_ev4, X5_at_ev5, X5_at_ev6, X5_at_ev7, X5_at_ev8, X5_at_ev9, X5_at_ev10, X5_at_ev11, ixA0 ha, clA0 ha, rdA0, wrA0, ixA1 ha, clA1 ha, rdA1, wrA1, ixA2 ha, clA2 ha, rdA2, wrA2, ixR0 hr, clR0 hr, rdR0, wrR0, ixR1 hr, clR1 hr, rdR1, wrR1, ixR2 hr, clR2 hr, rdR2, wrR2, ixR3 hr, clR3 hr, rdR3, wrR3, ixR4 hr, clR4 hr, rdR4, wrR4, ixR5 hr, clR5 hr, rdR5, wrR5, ixR6 hr, clR6 hr, rdR6, wrR6, ixR7 hr, clR7 hr, rdR7, wrR7, ixR8 hr, clR8 hr, rdR8, wrR8, ixR9 hr, clR9 hr, rdR9, wrR9, ixR10 hr, clR10 hr, rdR10, wrR10, ixR11 hr, clR11 hr, rdR11, wrR11, gp_sG, gp_sA, gp_sH, gp_sR, ap_sG, ap_sA, ap_sH, ap_sR, hp_sG, hp_sA, hp_sH, hp_sR, rp_sG, rp_sA, rp_sH, rp_sR, Nat.reduceLT, Nat.reduceEqDiff, X5_price_ev hM hr ha hra, hr, ha, hra, X5_lesser_ev]
  unfold paysS
  rw [ht]
  by_cases hc : ap s a 2 + gp s 1 < price s r
  · rw [if_pos hc, if_pos hc]
  · rw [if_neg hc, if_neg hc]
    have hTA : Ty (payA s r a (price s r) (ownS s a (price s r))) nA nH nR := (((((hT.sA ha (by decide)).sG (by decide) (by decide) (by decide) (by decide)).sG (by decide) (by decide) (by decide) (by decide)).sR hr (by decide) (by decide) (by decide)).sR hr (by decide) (by decide) (by decide))
    exact key (payA s r a (price s r) (ownS s a (price s r)), price s r, 0) _ _ hTA
end MOD3
