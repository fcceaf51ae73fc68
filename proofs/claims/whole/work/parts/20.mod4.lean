/-! the model: quarters, retests -/
section MOD4
variable {xl : Nat} {xs : Nat → Int32} {F : pm_F} {I : Nat → Nat → Int32} {o : Nat} {s : St} {nA nH nR : Nat}
theorem lp_fstP {σ β : Type} (P : Nat → σ → Prop) (f : Nat → σ → σ) (y : Nat → σ → β) (n : Nat) (a : σ) (b : β) : (lp (fun r (x : σ × β) => (f r x.1, y r x.1)) 0 n (a, b)).1 = lp f 0 n a := lp_fst f y n a b
theorem Ty.unf {r : Nat} {i : Nat} (hi : i < nR) {x : St × Int32} (h : Ty x.1 nA nH nR) : Ty (unfG r i x).1 nA nH nR := by
  have h40 := h.2.2.1.2
  unfold unfG
  split
  · exact (h.sR (by omega) (by decide) (by decide) (by decide)).sR (by omega) (by decide) (by decide) (by decide)
  · exact h
theorem X5_unfolds_ev (hM : LM F o) (hT : Ty s nA nH nR) {k : Nat} : pm_ev tb xl xs mX5_unfolds 0 [some (.ref o), some (.int (nI k)), none, none] [] (pm_G F (row I (o + 1) s)) = some (some (.int (unfS s nR k).2), pm_G F (row I (o + 1) (unfS s nR k).1)) := by
  have h40 := hT.2.2.1.2
  simp only [eX5_unfolds_0, eX5_unfolds_1, eX5_unfolds_2, eX5_unfolds_3, eX5_unfolds_5, eX5_unfolds_6, eX5_unfolds_9, eX5_unfolds_11, eX5_unfolds_12, eX5_unfolds_15, eX5_unfolds_16, eX5_unfolds_17, eX5_unfolds_18, eX5_unfolds_21, eX5_unfolds_22, eX5_unfolds_25, eX5_unfolds_26, eX5_unfolds_27, eX5_unfolds_28, eX5_unfolds_31, eX5_unfolds_32, eX5_unfolds_35, eX5_unfolds_36, eX5_unfolds_39, eX5_unfolds_40, eX5_unfolds_41, eX5_unfolds_44, eX5_unfolds_45, eX5_unfolds_46, eX5_unfolds_47, eX5_unfolds_50, eX5_unfolds_51, eX5_unfolds_52, eX5_unfolds_55, eX5_unfolds_58, eX5_unfolds_59, eX5_unfolds_62, eX5_unfolds_65, eX5_unfolds_68, eX5_unfolds_69, one0, gk, gr, gj, gw, rv_some, ret_i, ret_n, Option.bind_some, List.cons_append, List.nil_append, z0, z1, zi, zj, i10, i01, row_s, row_row, true_or, or_true, eq_self, not_false_eq_true, not_true_eq_false, if_true, if_false, ite_not, Decidable.not_not, and_true, true_and, or_false, false_or]
  obtain ⟨h1, hT'⟩ := lp_ev nR (fun i (x : St × Int32) => pm_ev tb xl xs mX5_unfolds 4 [some (.ref o), some (.int (nI k)), some (.int x.2), some (.int (nI i))] [] (pm_G F (row I (o + 1) x.1))) (fun _ x => Ty x.1 nA nH nR) (unfG k) (fun i x hi hTx => by
    refine ⟨?_, Ty.unf hi hTx⟩
    have hr : i < 40 := by have := hTx.2.2.1.2; omega
    rw [eX5_unfolds_4]
    simp only [eX5_unfolds_0, eX5_unfolds_1, eX5_unfolds_2, eX5_unfolds_3, eX5_unfolds_5, eX5_unfolds_6, eX5_unfolds_9, eX5_unfolds_11, eX5_unfolds_12, eX5_unfolds_15, eX5_unfolds_16, eX5_unfolds_17, eX5_unfolds_18, eX5_unfolds_21, eX5_unfolds_22, eX5_unfolds_25, eX5_unfolds_26, eX5_unfolds_27, eX5_unfolds_28, eX5_unfolds_31, eX5_unfolds_32, eX5_unfolds_35, eX5_unfolds_36, eX5_unfolds_39, eX5_unfolds_40, eX5_unfolds_41, eX5_unfolds_44, eX5_unfolds_45, eX5_unfolds_46, eX5_unfolds_47, eX5_unfolds_50, eX5_unfolds_51, eX5_unfolds_52, eX5_unfolds_55, eX5_unfolds_58, eX5_unfolds_59, eX5_unfolds_62, eX5_unfolds_65, eX5_unfolds_68, eX5_unfolds_69, one0, gk, gr, gj, gw, rv_some, ret_i, ret_n, Option.bind_some, List.cons_append, List.nil_append, z0, z1, zi, zj, i10, i01, row_s, row_row, true_or, or_true, eq_self, not_false_eq_true, not_true_eq_false, if_true, if_false, ite_not, Decidable.not_not, and_true, true_and, or_false, false_or, lm0 hM, lm1 hM, lm5 hM, ixG0, ixG1, ixG2, ixG3, ixG4, ixG5, ixG6, ixG7, ixG8, clG0, clG1, clG2, clG3, clG4, clG5, clG6, clG7, clG8, rdG0, rdG1, rdG2, rdG3, rdG4, rdG5, rdG6, rdG7, rdG8, wrG0, wrG1, wrG2, wrG3, wrG4, wrG5, wrG6, wrG7, wrG8, X5_of_ev0 hM, X5_of_ev1 hM, X5_of_ev2 hM, X5_of_ev3 hM, X5_of_ev4 hM, X5_of_ev5 hM, X5_of_ev6 hM, X5_of_ev7 hM, X5_of_ev8 hM, X5_of_ev9 hM, X5_of_ev10 hM, X5_of_ev11 hM, X5_at_ev0, X5_at_ev1, X5_at_ev2, X5_at_ev3, X5_at_ev4, X5_at_ev5, X5_at_ev6, X5_at_ev7, X5_at_ev8, X5_at_ev9, X5_at_ev10, X5_at_ev11, ixR0 hr, clR0 hr, rdR0, wrR0, ixR1 hr, clR1 hr, rdR1, wrR1, ixR2 hr, clR2 hr, rdR2, wrR2, ixR3 hr, clR3 hr, rdR3, wrR3, ixR4 hr, clR4 hr, rdR4, wrR4, ixR5 hr, clR5 hr, rdR5, wrR5, ixR6 hr, clR6 hr, rdR6, wrR6, ixR7 hr, clR7 hr, rdR7, wrR7, ixR8 hr, clR8 hr, rdR8, wrR8, ixR9 hr, clR9 hr, rdR9, wrR9, ixR10 hr, clR10 hr, rdR10, wrR10, ixR11 hr, clR11 hr, rdR11, wrR11, gp_sG, gp_sA, gp_sH, gp_sR, ap_sG, ap_sA, ap_sH, ap_sR, hp_sG, hp_sA, hp_sH, hp_sR, rp_sG, rp_sA, rp_sH, rp_sR, Nat.reduceLT, Nat.reduceEqDiff, hr, hTx.2.2.1.1, lt_t hi (by omega), nI_1]
    unfold unfG
    by_cases h1 : rp x.1 i 3 = 5
    · by_cases h2 : rp x.1 i 5 = nI k
      · rw [if_pos h1, if_pos h2, if_pos ⟨h1, h2⟩]
      · rw [if_pos h1, if_neg h2, if_neg (fun q => h2 q.2)]
    · rw [if_neg h1, if_neg (fun q => h1 q.1)]) nR 0 (s, 0) (by omega) hT
  refine h1.trans ?_
  rw [eX5_unfolds_4]
  simp only [eX5_unfolds_0, eX5_unfolds_1, eX5_unfolds_2, eX5_unfolds_3, eX5_unfolds_5, eX5_unfolds_6, eX5_unfolds_9, eX5_unfolds_11, eX5_unfolds_12, eX5_unfolds_15, eX5_unfolds_16, eX5_unfolds_17, eX5_unfolds_18, eX5_unfolds_21, eX5_unfolds_22, eX5_unfolds_25, eX5_unfolds_26, eX5_unfolds_27, eX5_unfolds_28, eX5_unfolds_31, eX5_unfolds_32, eX5_unfolds_35, eX5_unfolds_36, eX5_unfolds_39, eX5_unfolds_40, eX5_unfolds_41, eX5_unfolds_44, eX5_unfolds_45, eX5_unfolds_46, eX5_unfolds_47, eX5_unfolds_50, eX5_unfolds_51, eX5_unfolds_52, eX5_unfolds_55, eX5_unfolds_58, eX5_unfolds_59, eX5_unfolds_62, eX5_unfolds_65, eX5_unfolds_68, eX5_unfolds_69, one0, gk, gr, gj, gw, rv_some, ret_i, ret_n, Option.bind_some, List.cons_append, List.nil_append, z0, z1, zi, zj, i10, i01, row_s, row_row, true_or, or_true, eq_self, not_false_eq_true, not_true_eq_false, if_true, if_false, ite_not, Decidable.not_not, and_true, true_and, or_false, false_or, lm0 hM, lm1 hM, lm5 hM, ixG0, ixG1, ixG2, ixG3, ixG4, ixG5, ixG6, ixG7, ixG8, clG0, clG1, clG2, clG3, clG4, clG5, clG6, clG7, clG8, rdG0, rdG1, rdG2, rdG3, rdG4, rdG5, rdG6, rdG7, rdG8, wrG0, wrG1, wrG2, wrG3, wrG4, wrG5, wrG6, wrG7, wrG8, hT'.2.2.1.1, lt_f (Nat.le_refl nR) (by omega)]
  rfl
theorem Ty.al {i : Nat} (hi : i < nA) {x : St} (h : Ty x nA nH nR) : Ty (alG i x) nA nH nR := by
  have := h.1.2
  exact (h.sG (by decide) (by decide) (by decide) (by decide)).sA (by omega) (by decide)
theorem Ty.pay (h : Ty s nA nH nR) {r : Nat} (hrR : r < nR) : Ty (paysS s nR r).1 nA nH nR := by
  have h40 := h.2.2.1.2
  have hr : r < 40 := by omega
  obtain ⟨a, haA, hra, ht⟩ := vin (h.2.2.2 r hrR).2 (by have := h.1.2; omega)
  have ha : a < 6 := by have := h.1.2; omega
  unfold paysS
  split
  · exact h.sR hr (by decide) (by decide) (by decide)
  · refine Ty.payB ?_ hrR
    rw [ht]
    exact (((((h.sA ha (by decide)).sG (by decide) (by decide) (by decide) (by decide)).sG (by decide) (by decide) (by decide) (by decide)).sR hr (by decide) (by decide) (by decide)).sR hr (by decide) (by decide) (by decide))
theorem Ty.beg {i : Nat} (hi : i < nR) {x : St × Int32} (h : Ty x.1 nA nH nR) : Ty (begG nR i x).1 nA nH nR := by
  unfold begG
  split
  · exact h.pay hi
  · exact h
theorem Ty.als (h : Ty s nA nH nR) : Ty (lp alG 0 nA s) nA nH nR := lp_inv (fun _ x => Ty x nA nH nR) alG nA (fun i x hi h => Ty.al hi h) nA 0 s (by omega) h
theorem Ty.begs (h : Ty s nA nH nR) : Ty (begS s nA nR).1 nA nH nR := lp_inv (fun _ (x : St × Int32) => Ty x.1 nA nH nR) (begG nR) nR (fun i x hi h => Ty.beg hi h) nR 0 (lp alG 0 nA s, 0) (by omega) h.als
theorem X5_begins_ev (hM : LM F o) (hT : Ty s nA nH nR) : pm_ev tb xl xs mX5_begins 0 [some (.ref o), none, none, none] [] (pm_G F (row I (o + 1) s)) = some (some (.int (begS s nA nR).2), pm_G F (row I (o + 1) (begS s nA nR).1)) := by
  have h40 := hT.2.2.1.2
  have h6 := hT.1.2
  simp only [eX5_begins_0, eX5_begins_1, eX5_begins_3, eX5_begins_4, eX5_begins_7, eX5_begins_8, eX5_begins_9, eX5_begins_12, eX5_begins_13, eX5_begins_16, eX5_begins_17, eX5_begins_18, eX5_begins_21, eX5_begins_22, eX5_begins_23, eX5_begins_24, eX5_begins_25, eX5_begins_28, eX5_begins_29, eX5_begins_30, eX5_begins_33, eX5_begins_34, eX5_begins_37, eX5_begins_38, eX5_begins_39, eX5_begins_42, eX5_begins_43, eX5_begins_44, eX5_begins_45, eX5_begins_46, eX5_begins_47, eX5_begins_48, eX5_begins_49, eX5_begins_50, eX5_begins_51, eX5_begins_54, eX5_begins_55, eX5_begins_56, eX5_begins_59, eX5_begins_60, eX5_begins_61, eX5_begins_64, eX5_begins_65, eX5_begins_66, eX5_begins_69, eX5_begins_70, eX5_begins_71, eX5_begins_72, eX5_begins_75, eX5_begins_78, eX5_begins_79, eX5_begins_80, eX5_begins_81, eX5_begins_83, eX5_begins_84, eX5_begins_87, eX5_begins_89, eX5_begins_90, eX5_begins_93, eX5_begins_94, eX5_begins_95, eX5_begins_96, eX5_begins_97, eX5_begins_100, eX5_begins_101, eX5_begins_104, eX5_begins_105, eX5_begins_106, eX5_begins_109, eX5_begins_112, eX5_begins_113, eX5_begins_114, eX5_begins_117, eX5_begins_120, eX5_begins_121, eX5_begins_124, eX5_begins_125, eX5_begins_126, eX5_begins_127, eX5_begins_130, eX5_begins_133, eX5_begins_134, one0, gk, gr, gj, gw, rv_some, ret_i, ret_n, Option.bind_some, List.cons_append, List.nil_append, z0, z1, zi, zj, i10, i01, row_s, row_row, true_or, or_true, eq_self, not_false_eq_true, not_true_eq_false, if_true, if_false, ite_not, Decidable.not_not, and_true, true_and, or_false, false_or]
  obtain ⟨h1, hT1⟩ := lp_ev nA (fun i (x : St × Option Value × Option Value) => pm_ev tb xl xs mX5_begins 2 [some (.ref o), some (.int (nI i)), x.2.1, x.2.2] [] (pm_G F (row I (o + 1) x.1))) (fun _ x => Ty x.1 nA nH nR) (fun a x => (alG a x.1, (some (.int (ap x.1 a 2)), some (.int (staS x.1 a))))) (fun i x hi hTx => by
    refine ⟨?_, Ty.al hi hTx⟩
    have ha : i < 6 := by omega
    rw [eX5_begins_2]
    simp only [eX5_begins_0, eX5_begins_1, eX5_begins_3, eX5_begins_4, eX5_begins_7, eX5_begins_8, eX5_begins_9, eX5_begins_12, eX5_begins_13, eX5_begins_16, eX5_begins_17, eX5_begins_18, eX5_begins_21, eX5_begins_22, eX5_begins_23, eX5_begins_24, eX5_begins_25, eX5_begins_28, eX5_begins_29, eX5_begins_30, eX5_begins_33, eX5_begins_34, eX5_begins_37, eX5_begins_38, eX5_begins_39, eX5_begins_42, eX5_begins_43, eX5_begins_44, eX5_begins_45, eX5_begins_46, eX5_begins_47, eX5_begins_48, eX5_begins_49, eX5_begins_50, eX5_begins_51, eX5_begins_54, eX5_begins_55, eX5_begins_56, eX5_begins_59, eX5_begins_60, eX5_begins_61, eX5_begins_64, eX5_begins_65, eX5_begins_66, eX5_begins_69, eX5_begins_70, eX5_begins_71, eX5_begins_72, eX5_begins_75, eX5_begins_78, eX5_begins_79, eX5_begins_80, eX5_begins_81, eX5_begins_83, eX5_begins_84, eX5_begins_87, eX5_begins_89, eX5_begins_90, eX5_begins_93, eX5_begins_94, eX5_begins_95, eX5_begins_96, eX5_begins_97, eX5_begins_100, eX5_begins_101, eX5_begins_104, eX5_begins_105, eX5_begins_106, eX5_begins_109, eX5_begins_112, eX5_begins_113, eX5_begins_114, eX5_begins_117, eX5_begins_120, eX5_begins_121, eX5_begins_124, eX5_begins_125, eX5_begins_126, eX5_begins_127, eX5_begins_130, eX5_begins_133, eX5_begins_134, one0, gk, gr, gj, gw, rv_some, ret_i, ret_n, Option.bind_some, List.cons_append, List.nil_append, z0, z1, zi, zj, i10, i01, row_s, row_row, true_or, or_true, eq_self, not_false_eq_true, not_true_eq_false, if_true, if_false, ite_not, Decidable.not_not, and_true, true_and, or_false, false_or, lm0 hM, lm1 hM, lm5 hM, ixG0, ixG1, ixG2, ixG3, ixG4, ixG5, ixG6, ixG7, ixG8, clG0, clG1, clG2, clG3, clG4, clG5, clG6, clG7, clG8, rdG0, rdG1, rdG2, rdG3, rdG4, rdG5, rdG6, rdG7, rdG8, wrG0, wrG1, wrG2, wrG3, wrG4, wrG5, wrG6, wrG7, wrG8, X5_atAsset_ev0, X5_atAsset_ev1, X5_atAsset_ev2, ixA0 ha, clA0 ha, rdA0, wrA0, ixA1 ha, clA1 ha, rdA1, wrA1, ixA2 ha, clA2 ha, rdA2, wrA2, gp_sG, gp_sA, gp_sH, gp_sR, ap_sG, ap_sA, ap_sH, ap_sR, hp_sG, hp_sA, hp_sH, hp_sR, rp_sG, rp_sA, rp_sH, rp_sR, Nat.reduceLT, Nat.reduceEqDiff, ha, hTx.1.1, lt_t hi (by omega), nI_1, X5_lesser_ev]
    rfl) nA 0 (s, (none, none)) (by omega) hT
  refine h1.trans ?_
  have e1 := lp_fst alG (fun a (x : St) => ((some (Value.int (ap x a 2)), some (Value.int (staS x a))) : Option Value × Option Value)) nA s (none, none)
  generalize lp (fun a (x : St × Option Value × Option Value) => (alG a x.1, (some (Value.int (ap x.1 a 2)), some (Value.int (staS x.1 a))))) 0 nA (s, (none, none)) = w at hT1 e1
  obtain ⟨w1, w2, w3⟩ := w
  dsimp only at e1 hT1
  subst e1
  rw [eX5_begins_2]
  simp only [eX5_begins_0, eX5_begins_1, eX5_begins_3, eX5_begins_4, eX5_begins_7, eX5_begins_8, eX5_begins_9, eX5_begins_12, eX5_begins_13, eX5_begins_16, eX5_begins_17, eX5_begins_18, eX5_begins_21, eX5_begins_22, eX5_begins_23, eX5_begins_24, eX5_begins_25, eX5_begins_28, eX5_begins_29, eX5_begins_30, eX5_begins_33, eX5_begins_34, eX5_begins_37, eX5_begins_38, eX5_begins_39, eX5_begins_42, eX5_begins_43, eX5_begins_44, eX5_begins_45, eX5_begins_46, eX5_begins_47, eX5_begins_48, eX5_begins_49, eX5_begins_50, eX5_begins_51, eX5_begins_54, eX5_begins_55, eX5_begins_56, eX5_begins_59, eX5_begins_60, eX5_begins_61, eX5_begins_64, eX5_begins_65, eX5_begins_66, eX5_begins_69, eX5_begins_70, eX5_begins_71, eX5_begins_72, eX5_begins_75, eX5_begins_78, eX5_begins_79, eX5_begins_80, eX5_begins_81, eX5_begins_83, eX5_begins_84, eX5_begins_87, eX5_begins_89, eX5_begins_90, eX5_begins_93, eX5_begins_94, eX5_begins_95, eX5_begins_96, eX5_begins_97, eX5_begins_100, eX5_begins_101, eX5_begins_104, eX5_begins_105, eX5_begins_106, eX5_begins_109, eX5_begins_112, eX5_begins_113, eX5_begins_114, eX5_begins_117, eX5_begins_120, eX5_begins_121, eX5_begins_124, eX5_begins_125, eX5_begins_126, eX5_begins_127, eX5_begins_130, eX5_begins_133, eX5_begins_134, one0, gk, gr, gj, gw, rv_some, ret_i, ret_n, Option.bind_some, List.cons_append, List.nil_append, z0, z1, zi, zj, i10, i01, row_s, row_row, true_or, or_true, eq_self, not_false_eq_true, not_true_eq_false, if_true, if_false, ite_not, Decidable.not_not, and_true, true_and, or_false, false_or, lm0 hM, lm1 hM, lm5 hM, ixG0, ixG1, ixG2, ixG3, ixG4, ixG5, ixG6, ixG7, ixG8, clG0, clG1, clG2, clG3, clG4, clG5, clG6, clG7, clG8, rdG0, rdG1, rdG2, rdG3, rdG4, rdG5, rdG6, rdG7, rdG8, wrG0, wrG1, wrG2, wrG3, wrG4, wrG5, wrG6, wrG7, wrG8, hT1.1.1, lt_f (Nat.le_refl nA) (by omega)]
  obtain ⟨h2, hT2⟩ := lp_ev nR (fun i (x : St × Int32) => pm_ev tb xl xs mX5_begins 82 [some (.ref o), some (.int x.2), some (.int (nI i)), w3] [] (pm_G F (row I (o + 1) x.1))) (fun _ x => Ty x.1 nA nH nR) (begG nR) (fun i x hi hTx => by
    refine ⟨?_, Ty.beg hi hTx⟩
    have hr : i < 40 := by omega
    rw [eX5_begins_82]
    simp only [eX5_begins_0, eX5_begins_1, eX5_begins_3, eX5_begins_4, eX5_begins_7, eX5_begins_8, eX5_begins_9, eX5_begins_12, eX5_begins_13, eX5_begins_16, eX5_begins_17, eX5_begins_18, eX5_begins_21, eX5_begins_22, eX5_begins_23, eX5_begins_24, eX5_begins_25, eX5_begins_28, eX5_begins_29, eX5_begins_30, eX5_begins_33, eX5_begins_34, eX5_begins_37, eX5_begins_38, eX5_begins_39, eX5_begins_42, eX5_begins_43, eX5_begins_44, eX5_begins_45, eX5_begins_46, eX5_begins_47, eX5_begins_48, eX5_begins_49, eX5_begins_50, eX5_begins_51, eX5_begins_54, eX5_begins_55, eX5_begins_56, eX5_begins_59, eX5_begins_60, eX5_begins_61, eX5_begins_64, eX5_begins_65, eX5_begins_66, eX5_begins_69, eX5_begins_70, eX5_begins_71, eX5_begins_72, eX5_begins_75, eX5_begins_78, eX5_begins_79, eX5_begins_80, eX5_begins_81, eX5_begins_83, eX5_begins_84, eX5_begins_87, eX5_begins_89, eX5_begins_90, eX5_begins_93, eX5_begins_94, eX5_begins_95, eX5_begins_96, eX5_begins_97, eX5_begins_100, eX5_begins_101, eX5_begins_104, eX5_begins_105, eX5_begins_106, eX5_begins_109, eX5_begins_112, eX5_begins_113, eX5_begins_114, eX5_begins_117, eX5_begins_120, eX5_begins_121, eX5_begins_124, eX5_begins_125, eX5_begins_126, eX5_begins_127, eX5_begins_130, eX5_begins_133, eX5_begins_134, one0, gk, gr, gj, gw, rv_some, ret_i, ret_n, Option.bind_some, List.cons_append, List.nil_append, z0, z1, zi, zj, i10, i01, row_s, row_row, true_or, or_true, eq_self, not_false_eq_true, not_true_eq_false, if_true, if_false, ite_not, Decidable.not_not, and_true, true_and, or_false, false_or, lm0 hM, lm1 hM, lm5 hM, ixG0, ixG1, ixG2, ixG3, ixG4, ixG5, ixG6, ixG7, ixG8, clG0, clG1, clG2, clG3, clG4, clG5, clG6, clG7, clG8, rdG0, rdG1, rdG2, rdG3, rdG4, rdG5, rdG6, rdG7, rdG8, wrG0, wrG1, wrG2, wrG3, wrG4, wrG5, wrG6, wrG7, wrG8, X5_of_ev0 hM, X5_of_ev1 hM, X5_of_ev2 hM, X5_of_ev3 hM, X5_of_ev4 hM, X5_of_ev5 hM, X5_of_ev6 hM, X5_of_ev7 hM, X5_of_ev8 hM, X5_of_ev9 hM, X5_of_ev10 hM, X5_of_ev11 hM, X5_isOpen_ev hM hr, X5_pays_ev hM hTx hi, hr, hTx.2.2.1.1, lt_t hi (by omega), nI_1]
    by_cases h1 : rp x.1 i 3 = 2
    · by_cases h2 : rp x.1 i 6 = 1
      · have e : begG nR i x = x := if_neg (fun q => q.2 h2)
        rw [if_pos h1, if_pos h2, e, Int32.add_zero]
      · have e : begG nR i x = ((paysS x.1 nR i).1, x.2 + if 0 < (paysS x.1 nR i).2 then 1 else 0) := if_pos ⟨h1, h2⟩
        rw [if_pos h1, if_neg h2, e]
        by_cases h3 : 0 < (paysS x.1 nR i).2
        · simp only [h3, if_true]
        · simp only [h3, if_false]
    · have e : begG nR i x = x := if_neg (fun q => h1 q.1)
      rw [if_neg h1, e, Int32.add_zero]) nR 0 (lp alG 0 nA s, 0) (by omega) hT1
  refine h2.trans ?_
  rw [eX5_begins_82]
  simp only [eX5_begins_0, eX5_begins_1, eX5_begins_3, eX5_begins_4, eX5_begins_7, eX5_begins_8, eX5_begins_9, eX5_begins_12, eX5_begins_13, eX5_begins_16, eX5_begins_17, eX5_begins_18, eX5_begins_21, eX5_begins_22, eX5_begins_23, eX5_begins_24, eX5_begins_25, eX5_begins_28, eX5_begins_29, eX5_begins_30, eX5_begins_33, eX5_begins_34, eX5_begins_37, eX5_begins_38, eX5_begins_39, eX5_begins_42, eX5_begins_43, eX5_begins_44, eX5_begins_45, eX5_begins_46, eX5_begins_47, eX5_begins_48, eX5_begins_49, eX5_begins_50, eX5_begins_51, eX5_begins_54, eX5_begins_55, eX5_begins_56, eX5_begins_59, eX5_begins_60, eX5_begins_61, eX5_begins_64, eX5_begins_65, eX5_begins_66, eX5_begins_69, eX5_begins_70, eX5_begins_71, eX5_begins_72, eX5_begins_75, eX5_begins_78, eX5_begins_79, eX5_begins_80, eX5_begins_81, eX5_begins_83, eX5_begins_84, eX5_begins_87, eX5_begins_89, eX5_begins_90, eX5_begins_93, eX5_begins_94, eX5_begins_95, eX5_begins_96, eX5_begins_97, eX5_begins_100, eX5_begins_101, eX5_begins_104, eX5_begins_105, eX5_begins_106, eX5_begins_109, eX5_begins_112, eX5_begins_113, eX5_begins_114, eX5_begins_117, eX5_begins_120, eX5_begins_121, eX5_begins_124, eX5_begins_125, eX5_begins_126, eX5_begins_127, eX5_begins_130, eX5_begins_133, eX5_begins_134, one0, gk, gr, gj, gw, rv_some, ret_i, ret_n, Option.bind_some, List.cons_append, List.nil_append, z0, z1, zi, zj, i10, i01, row_s, row_row, true_or, or_true, eq_self, not_false_eq_true, not_true_eq_false, if_true, if_false, ite_not, Decidable.not_not, and_true, true_and, or_false, false_or, lm0 hM, lm1 hM, lm5 hM, ixG0, ixG1, ixG2, ixG3, ixG4, ixG5, ixG6, ixG7, ixG8, clG0, clG1, clG2, clG3, clG4, clG5, clG6, clG7, clG8, rdG0, rdG1, rdG2, rdG3, rdG4, rdG5, rdG6, rdG7, rdG8, wrG0, wrG1, wrG2, wrG3, wrG4, wrG5, wrG6, wrG7, wrG8, hT2.2.2.1.1, lt_f (Nat.le_refl nR) (by omega)]
  rfl
def onS (v : Int32) : Int32 := sum (fun k => (v >>> (nI k &&& 31)) &&& 1) 8
abbrev bitS (v : Int32) (k : Nat) : Prop := (v >>> (nI k &&& 31)) &&& 1 = 1
theorem X5_ones_ev {M : pm_H} {v : Int32} : pm_ev tb xl xs mX5_ones 0 [some (.int v), none, none] [] M = some (some (.int (onS v)), M) := by
  simp only [eX5_ones_0, eX5_ones_1, eX5_ones_2, eX5_ones_3, eX5_ones_5, eX5_ones_7, eX5_ones_10, eX5_ones_11, eX5_ones_12, eX5_ones_13, eX5_ones_14, eX5_ones_15, eX5_ones_16, eX5_ones_17, eX5_ones_18, eX5_ones_21, eX5_ones_24, eX5_ones_25, one0, gk, gr, gj, gw, rv_some, ret_i, ret_n, Option.bind_some, List.cons_append, List.nil_append, z0, z1, zi, zj, i10, i01, row_s, row_row, true_or, or_true, eq_self, not_false_eq_true, not_true_eq_false, if_true, if_false, ite_not, Decidable.not_not, and_true, true_and, or_false, false_or]
  refine (lp_ev0 8 (fun i (x : Int32) => pm_ev tb xl xs mX5_ones 4 [some (.int v), some (.int x), some (.int (nI i))] [] M) (fun k x => x + ((v >>> (nI k &&& 31)) &&& 1)) (fun i x hi => ?_) 0).trans ?_
  · rw [eX5_ones_4]
    have : (nI i < 8) = True := lt_t (n := 8) hi (by omega)
    simp only [eX5_ones_0, eX5_ones_1, eX5_ones_2, eX5_ones_3, eX5_ones_5, eX5_ones_7, eX5_ones_10, eX5_ones_11, eX5_ones_12, eX5_ones_13, eX5_ones_14, eX5_ones_15, eX5_ones_16, eX5_ones_17, eX5_ones_18, eX5_ones_21, eX5_ones_24, eX5_ones_25, one0, gk, gr, gj, gw, rv_some, ret_i, ret_n, Option.bind_some, List.cons_append, List.nil_append, z0, z1, zi, zj, i10, i01, row_s, row_row, true_or, or_true, eq_self, not_false_eq_true, not_true_eq_false, if_true, if_false, ite_not, Decidable.not_not, and_true, true_and, or_false, false_or, this, nI_1]
  · rw [eX5_ones_4]
    have : (nI 8 < 8) = False := lt_f (i := 8) (n := 8) (by omega) (by omega)
    simp only [eX5_ones_0, eX5_ones_1, eX5_ones_2, eX5_ones_3, eX5_ones_5, eX5_ones_7, eX5_ones_10, eX5_ones_11, eX5_ones_12, eX5_ones_13, eX5_ones_14, eX5_ones_15, eX5_ones_16, eX5_ones_17, eX5_ones_18, eX5_ones_21, eX5_ones_24, eX5_ones_25, one0, gk, gr, gj, gw, rv_some, ret_i, ret_n, Option.bind_some, List.cons_append, List.nil_append, z0, z1, zi, zj, i10, i01, row_s, row_row, true_or, or_true, eq_self, not_false_eq_true, not_true_eq_false, if_true, if_false, ite_not, Decidable.not_not, and_true, true_and, or_false, false_or, this]
    rfl
theorem X5_has_ev {M : pm_H} {v : Int32} {k : Nat} : pm_ev tb xl xs mX5_has 0 [some (.int v), some (.int (nI k))] [] M = some (some (.int (if bitS v k then 1 else 0)), M) := by
  simp only [eX5_has_0, eX5_has_1, eX5_has_2, eX5_has_3, eX5_has_4, eX5_has_5, eX5_has_6, eX5_has_9, eX5_has_10, eX5_has_13, eX5_has_14, one0, gk, gr, gj, gw, rv_some, ret_i, ret_n, Option.bind_some, List.cons_append, List.nil_append, z0, z1, zi, zj, i10, i01, row_s, row_row, true_or, or_true, eq_self, not_false_eq_true, not_true_eq_false, if_true, if_false, ite_not, Decidable.not_not, and_true, true_and, or_false, false_or]
  by_cases h : bitS v k
  · rw [if_pos h, if_pos h]
  · rw [if_neg h, if_neg h]
def hasR (s : St) (nR h r : Nat) : Prop := rp s r 0 = nI h ∨ ∃ q, q < nR ∧ under s r q ∧ rp s q 0 = nI h
theorem X5_hasReported_ev (hM : LM F o) (hn : gp s 6 = nI nR) (h40 : nR ≤ 40) {h r : Nat} (hr : r < 40) : ∃ v : Int32, zb v ∧ (v = 0 ↔ ¬ hasR s nR h r) ∧ pm_ev tb xl xs mX5_hasReported 0 [some (.ref o), some (.int (nI h)), some (.int (nI r)), none, none] [] (pm_G F (row I (o + 1) s)) = some (some (.int v), pm_G F (row I (o + 1) s)) := by
  have key : ∀ k i (v : Int32), i + k = nR → zb v → ∃ w : Int32, zb w ∧ (w = 0 ↔ v = 0 ∧ ¬ ∃ q, i ≤ q ∧ q < nR ∧ under s r q ∧ rp s q 0 = nI h) ∧ pm_ev tb xl xs mX5_hasReported 19 [some (.ref o), some (.int (nI h)), some (.int (nI r)), some (.int v), some (.int (nI i))] [] (pm_G F (row I (o + 1) s)) = some (some (.int w), pm_G F (row I (o + 1) s)) := by
    intro k
    induction k with
    | zero =>
      intro i v hi hv
      obtain rfl : i = nR := by omega
      refine ⟨v, hv, ⟨fun q => ⟨q, fun ⟨a, h1, h2, _⟩ => by omega⟩, fun q => q.1⟩, ?_⟩
      rw [eX5_hasReported_19]
      simp only [eX5_hasReported_0, eX5_hasReported_1, eX5_hasReported_2, eX5_hasReported_3, eX5_hasReported_6, eX5_hasReported_7, eX5_hasReported_10, eX5_hasReported_11, eX5_hasReported_14, eX5_hasReported_15, eX5_hasReported_16, eX5_hasReported_17, eX5_hasReported_21, eX5_hasReported_22, eX5_hasReported_25, eX5_hasReported_27, eX5_hasReported_28, eX5_hasReported_31, eX5_hasReported_32, eX5_hasReported_35, eX5_hasReported_36, eX5_hasReported_38, eX5_hasReported_39, eX5_hasReported_42, eX5_hasReported_43, eX5_hasReported_46, eX5_hasReported_47, eX5_hasReported_49, eX5_hasReported_50, eX5_hasReported_53, eX5_hasReported_54, eX5_hasReported_57, eX5_hasReported_58, eX5_hasReported_60, eX5_hasReported_61, eX5_hasReported_64, eX5_hasReported_65, eX5_hasReported_68, eX5_hasReported_69, eX5_hasReported_72, eX5_hasReported_73, eX5_hasReported_74, eX5_hasReported_77, eX5_hasReported_80, eX5_hasReported_81, one0, gk, gr, gj, gw, rv_some, ret_i, ret_n, Option.bind_some, List.cons_append, List.nil_append, z0, z1, zi, zj, i10, i01, row_s, row_row, true_or, or_true, eq_self, not_false_eq_true, not_true_eq_false, if_true, if_false, ite_not, Decidable.not_not, and_true, true_and, or_false, false_or, lm0 hM, lm1 hM, lm5 hM, ixG0, ixG1, ixG2, ixG3, ixG4, ixG5, ixG6, ixG7, ixG8, clG0, clG1, clG2, clG3, clG4, clG5, clG6, clG7, clG8, rdG0, rdG1, rdG2, rdG3, rdG4, rdG5, rdG6, rdG7, rdG8, wrG0, wrG1, wrG2, wrG3, wrG4, wrG5, wrG6, wrG7, wrG8, hn, lt_f (Nat.le_refl i) (by omega), hv]
    | succ k ih =>
      intro i v hi hv
      have hi2 : i < nR := by omega
      have hi3 : i < 40 := by omega
      rw [eX5_hasReported_19]
      simp only [eX5_hasReported_0, eX5_hasReported_1, eX5_hasReported_2, eX5_hasReported_3, eX5_hasReported_6, eX5_hasReported_7, eX5_hasReported_10, eX5_hasReported_11, eX5_hasReported_14, eX5_hasReported_15, eX5_hasReported_16, eX5_hasReported_17, eX5_hasReported_21, eX5_hasReported_22, eX5_hasReported_25, eX5_hasReported_27, eX5_hasReported_28, eX5_hasReported_31, eX5_hasReported_32, eX5_hasReported_35, eX5_hasReported_36, eX5_hasReported_38, eX5_hasReported_39, eX5_hasReported_42, eX5_hasReported_43, eX5_hasReported_46, eX5_hasReported_47, eX5_hasReported_49, eX5_hasReported_50, eX5_hasReported_53, eX5_hasReported_54, eX5_hasReported_57, eX5_hasReported_58, eX5_hasReported_60, eX5_hasReported_61, eX5_hasReported_64, eX5_hasReported_65, eX5_hasReported_68, eX5_hasReported_69, eX5_hasReported_72, eX5_hasReported_73, eX5_hasReported_74, eX5_hasReported_77, eX5_hasReported_80, eX5_hasReported_81, one0, gk, gr, gj, gw, rv_some, ret_i, ret_n, Option.bind_some, List.cons_append, List.nil_append, z0, z1, zi, zj, i10, i01, row_s, row_row, true_or, or_true, eq_self, not_false_eq_true, not_true_eq_false, if_true, if_false, ite_not, Decidable.not_not, and_true, true_and, or_false, false_or, lm0 hM, lm1 hM, lm5 hM, ixG0, ixG1, ixG2, ixG3, ixG4, ixG5, ixG6, ixG7, ixG8, clG0, clG1, clG2, clG3, clG4, clG5, clG6, clG7, clG8, rdG0, rdG1, rdG2, rdG3, rdG4, rdG5, rdG6, rdG7, rdG8, wrG0, wrG1, wrG2, wrG3, wrG4, wrG5, wrG6, wrG7, wrG8, X5_of_ev0 hM, X5_of_ev1 hM, X5_of_ev2 hM, X5_of_ev3 hM, X5_of_ev4 hM, X5_of_ev5 hM, X5_of_ev6 hM, X5_of_ev7 hM, X5_of_ev8 hM, X5_of_ev9 hM, X5_of_ev10 hM, X5_of_ev11 hM, hn, hi3, lt_t hi2 (by omega), nI_1]
      by_cases hv0 : v = 0
      · subst hv0
        simp only [eq_self, if_true]
        by_cases hc : under s r i ∧ rp s i 0 = nI h
        · obtain ⟨w, h1, h2, h3⟩ := ih (i + 1) 1 (by omega) z1
          refine ⟨w, h1, ?_, ?_⟩
          · rw [h2]
            constructor
            · rintro ⟨q, -⟩; exact absurd q (by decide)
            · rintro ⟨-, q⟩; exact absurd ⟨i, Nat.le_refl i, hi2, hc.1, hc.2⟩ q
          · rw [if_pos hc.1.1, if_pos hc.1.2, if_pos hc.2]
            exact h3
        · obtain ⟨w, h1, h2, h3⟩ := ih (i + 1) 0 (by omega) z0
          refine ⟨w, h1, ?_, ?_⟩
          · rw [h2]
            refine ⟨fun ⟨_, q⟩ => ⟨trivial, fun ⟨a, g1, g2, g3, g4⟩ => ?_⟩, fun ⟨_, q⟩ => ⟨rfl, fun ⟨a, g1, g2, g3⟩ => q ⟨a, by omega, g2, g3⟩⟩⟩
            rcases Nat.lt_or_ge i a with g | g
            · exact q ⟨a, g, g2, g3, g4⟩
            · obtain rfl : a = i := by omega
              exact hc ⟨g3, g4⟩
          · by_cases g1 : rp s i 3 = 5
            · by_cases g2 : rp s i 5 = nI r
              · rw [if_pos g1, if_pos g2, if_neg (fun q => hc ⟨⟨g1, g2⟩, q⟩)]
                exact h3
              · rw [if_pos g1, if_neg g2]
                exact h3
            · rw [if_neg g1]
              exact h3
      · rw [if_neg hv0]
        obtain ⟨w, h1, h2, h3⟩ := ih (i + 1) 1 (by omega) z1
        refine ⟨w, h1, ?_, h3⟩
        rw [h2]
        constructor
        · rintro ⟨q, -⟩; exact absurd q (by decide)
        · rintro ⟨q, -⟩; exact absurd q hv0
  simp only [eX5_hasReported_0, eX5_hasReported_1, eX5_hasReported_2, eX5_hasReported_3, eX5_hasReported_6, eX5_hasReported_7, eX5_hasReported_10, eX5_hasReported_11, eX5_hasReported_14, eX5_hasReported_15, eX5_hasReported_16, eX5_hasReported_17, eX5_hasReported_21, eX5_hasReported_22, eX5_hasReported_25, eX5_hasReported_27, eX5_hasReported_28, eX5_hasReported_31, eX5_hasReported_32, eX5_hasReported_35, eX5_hasReported_36, eX5_hasReported_38, eX5_hasReported_39, eX5_hasReported_42, eX5_hasReported_43, eX5_hasReported_46, eX5_hasReported_47, eX5_hasReported_49, eX5_hasReported_50, eX5_hasReported_53, eX5_hasReported_54, eX5_hasReported_57, eX5_hasReported_58, eX5_hasReported_60, eX5_hasReported_61, eX5_hasReported_64, eX5_hasReported_65, eX5_hasReported_68, eX5_hasReported_69, eX5_hasReported_72, eX5_hasReported_73, eX5_hasReported_74, eX5_hasReported_77, eX5_hasReported_80, eX5_hasReported_81, one0, gk, gr, gj, gw, rv_some, ret_i, ret_n, Option.bind_some, List.cons_append, List.nil_append, z0, z1, zi, zj, i10, i01, row_s, row_row, true_or, or_true, eq_self, not_false_eq_true, not_true_eq_false, if_true, if_false, ite_not, Decidable.not_not, and_true, true_and, or_false, false_or, lm0 hM, lm1 hM, lm5 hM, X5_of_ev0 hM, X5_of_ev1 hM, X5_of_ev2 hM, X5_of_ev3 hM, X5_of_ev4 hM, X5_of_ev5 hM, X5_of_ev6 hM, X5_of_ev7 hM, X5_of_ev8 hM, X5_of_ev9 hM, X5_of_ev10 hM, X5_of_ev11 hM, hr]
  by_cases h0 : rp s r 0 = nI h
  · obtain ⟨w, h1, h2, h3⟩ := key nR 0 1 (by omega) z1
    refine ⟨w, h1, ?_, ?_⟩
    · rw [h2]
      constructor
      · rintro ⟨q, -⟩; exact absurd q (by decide)
      · intro q; exact absurd (Or.inl h0) q
    · rw [if_pos h0]
      exact h3
  · obtain ⟨w, h1, h2, h3⟩ := key nR 0 0 (by omega) z0
    refine ⟨w, h1, ?_, ?_⟩
    · rw [h2]
      refine ⟨fun ⟨_, q⟩ g => ?_, fun q => ⟨rfl, fun ⟨a, g1, g2, g3, g4⟩ => q (Or.inr ⟨a, g2, g3, g4⟩)⟩⟩
      rcases g with g | ⟨a, g2, g3, g4⟩
      · exact h0 g
      · exact q ⟨a, Nat.zero_le a, g2, g3, g4⟩
    · rw [if_neg h0]
      exact h3
def bonG (v b : Int32) (h : Nat) (s : St) : St := if bitS v h then sH (giveS s h b) h 3 (hp (giveS s h b) h 3 + 1) else s
def bonS (s : St) (nH : Nat) (v : Int32) : St := if gp s 1 < onS v * gp s 3 then s else lp (bonG v (gp s 3)) 0 nH (sG (sG s 1 (gp s 1 - onS v * gp s 3)) 8 (gp s 8 + onS v * gp s 3))
theorem X5_givesBonuses_ev (hM : LM F o) (hT : Ty s nA nH nR) {v : Int32} : pm_ev tb xl xs mX5_givesBonuses 0 [some (.ref o), some (.int v), none, none] [] (pm_G F (row I (o + 1) s)) = some (none, pm_G F (row I (o + 1) (bonS s nH v))) := by
  have h8 := hT.2.1.2
  simp only [eX5_givesBonuses_0, eX5_givesBonuses_1, eX5_givesBonuses_4, eX5_givesBonuses_5, eX5_givesBonuses_8, eX5_givesBonuses_9, eX5_givesBonuses_10, eX5_givesBonuses_11, eX5_givesBonuses_12, eX5_givesBonuses_13, eX5_givesBonuses_14, eX5_givesBonuses_17, eX5_givesBonuses_18, eX5_givesBonuses_19, eX5_givesBonuses_22, eX5_givesBonuses_23, eX5_givesBonuses_24, eX5_givesBonuses_27, eX5_givesBonuses_28, eX5_givesBonuses_29, eX5_givesBonuses_30, eX5_givesBonuses_31, eX5_givesBonuses_32, eX5_givesBonuses_33, eX5_givesBonuses_34, eX5_givesBonuses_37, eX5_givesBonuses_39, eX5_givesBonuses_40, eX5_givesBonuses_41, eX5_givesBonuses_42, eX5_givesBonuses_43, eX5_givesBonuses_44, eX5_givesBonuses_45, eX5_givesBonuses_47, eX5_givesBonuses_48, eX5_givesBonuses_51, eX5_givesBonuses_52, eX5_givesBonuses_53, eX5_givesBonuses_56, eX5_givesBonuses_57, eX5_givesBonuses_58, eX5_givesBonuses_61, eX5_givesBonuses_64, eX5_givesBonuses_65, eX5_givesBonuses_66, eX5_givesBonuses_67, eX5_givesBonuses_70, eX5_givesBonuses_71, eX5_givesBonuses_72, eX5_givesBonuses_75, eX5_givesBonuses_76, eX5_givesBonuses_79, eX5_givesBonuses_80, eX5_givesBonuses_81, eX5_givesBonuses_84, eX5_givesBonuses_85, eX5_givesBonuses_86, eX5_givesBonuses_87, eX5_givesBonuses_88, eX5_givesBonuses_89, eX5_givesBonuses_92, eX5_givesBonuses_95, one0, gk, gr, gj, gw, rv_some, ret_i, ret_n, Option.bind_some, List.cons_append, List.nil_append, z0, z1, zi, zj, i10, i01, row_s, row_row, true_or, or_true, eq_self, not_false_eq_true, not_true_eq_false, if_true, if_false, ite_not, Decidable.not_not, and_true, true_and, or_false, false_or, lm0 hM, lm1 hM, lm5 hM, ixG0, ixG1, ixG2, ixG3, ixG4, ixG5, ixG6, ixG7, ixG8, clG0, clG1, clG2, clG3, clG4, clG5, clG6, clG7, clG8, rdG0, rdG1, rdG2, rdG3, rdG4, rdG5, rdG6, rdG7, rdG8, wrG0, wrG1, wrG2, wrG3, wrG4, wrG5, wrG6, wrG7, wrG8, gp_sG, gp_sA, gp_sH, gp_sR, ap_sG, ap_sA, ap_sH, ap_sR, hp_sG, hp_sA, hp_sH, hp_sR, rp_sG, rp_sA, rp_sH, rp_sR, Nat.reduceLT, Nat.reduceEqDiff, X5_ones_ev]
  unfold bonS
  by_cases hc : gp s 1 < onS v * gp s 3
  · rw [if_pos hc, if_pos hc]
  · rw [if_neg hc, if_neg hc]
    obtain ⟨h2, hT2⟩ := lp_ev nH (fun i (x : St) => pm_ev tb xl xs mX5_givesBonuses 46 [some (.ref o), some (.int v), some (.int (onS v * gp s 3)), some (.int (nI i))] [] (pm_G F (row I (o + 1) x))) (fun _ x => Ty x nA nH nR ∧ gp x 3 = gp s 3) (bonG v (gp s 3)) (fun i x hi hTx => by
      have hh : i < 8 := by omega
      refine ⟨?_, ?_⟩
      · rw [eX5_givesBonuses_46]
        simp only [eX5_givesBonuses_0, eX5_givesBonuses_1, eX5_givesBonuses_4, eX5_givesBonuses_5, eX5_givesBonuses_8, eX5_givesBonuses_9, eX5_givesBonuses_10, eX5_givesBonuses_11, eX5_givesBonuses_12, eX5_givesBonuses_13, eX5_givesBonuses_14, eX5_givesBonuses_17, eX5_givesBonuses_18, eX5_givesBonuses_19, eX5_givesBonuses_22, eX5_givesBonuses_23, eX5_givesBonuses_24, eX5_givesBonuses_27, eX5_givesBonuses_28, eX5_givesBonuses_29, eX5_givesBonuses_30, eX5_givesBonuses_31, eX5_givesBonuses_32, eX5_givesBonuses_33, eX5_givesBonuses_34, eX5_givesBonuses_37, eX5_givesBonuses_39, eX5_givesBonuses_40, eX5_givesBonuses_41, eX5_givesBonuses_42, eX5_givesBonuses_43, eX5_givesBonuses_44, eX5_givesBonuses_45, eX5_givesBonuses_47, eX5_givesBonuses_48, eX5_givesBonuses_51, eX5_givesBonuses_52, eX5_givesBonuses_53, eX5_givesBonuses_56, eX5_givesBonuses_57, eX5_givesBonuses_58, eX5_givesBonuses_61, eX5_givesBonuses_64, eX5_givesBonuses_65, eX5_givesBonuses_66, eX5_givesBonuses_67, eX5_givesBonuses_70, eX5_givesBonuses_71, eX5_givesBonuses_72, eX5_givesBonuses_75, eX5_givesBonuses_76, eX5_givesBonuses_79, eX5_givesBonuses_80, eX5_givesBonuses_81, eX5_givesBonuses_84, eX5_givesBonuses_85, eX5_givesBonuses_86, eX5_givesBonuses_87, eX5_givesBonuses_88, eX5_givesBonuses_89, eX5_givesBonuses_92, eX5_givesBonuses_95, one0, gk, gr, gj, gw, rv_some, ret_i, ret_n, Option.bind_some, List.cons_append, List.nil_append, z0, z1, zi, zj, i10, i01, row_s, row_row, true_or, or_true, eq_self, not_false_eq_true, not_true_eq_false, if_true, if_false, ite_not, Decidable.not_not, and_true, true_and, or_false, false_or, lm0 hM, lm1 hM, lm5 hM, ixG0, ixG1, ixG2, ixG3, ixG4, ixG5, ixG6, ixG7, ixG8, clG0, clG1, clG2, clG3, clG4, clG5, clG6, clG7, clG8, rdG0, rdG1, rdG2, rdG3, rdG4, rdG5, rdG6, rdG7, rdG8, wrG0, wrG1, wrG2, wrG3, wrG4, wrG5, wrG6, wrG7, wrG8, X5_atHunter_ev0, X5_atHunter_ev1, X5_atHunter_ev2, X5_atHunter_ev3, ixH0 hh, clH0 hh, rdH0, wrH0, ixH1 hh, clH1 hh, rdH1, wrH1, ixH2 hh, clH2 hh, rdH2, wrH2, ixH3 hh, clH3 hh, rdH3, wrH3, gp_sG, gp_sA, gp_sH, gp_sR, ap_sG, ap_sA, ap_sH, ap_sR, hp_sG, hp_sA, hp_sH, hp_sR, rp_sG, rp_sA, rp_sH, rp_sR, Nat.reduceLT, Nat.reduceEqDiff, X5_has_ev, X5_gives_ev hM hh, hh, hTx.1.2.1.1, hTx.2, lt_t hi (by omega), nI_1]
        unfold bonG
        by_cases hb : bitS v i
        · rw [if_pos hb, if_pos hb]
        · rw [if_neg hb, if_neg hb]
      · unfold bonG
        split
        · exact ⟨(hTx.1.give hh).sH hh (by decide), by rw [gp_sH (by decide)]; exact (gp_sH (by decide)).trans hTx.2⟩
        · exact hTx) nH 0 (sG (sG s 1 (gp s 1 - onS v * gp s 3)) 8 (gp s 8 + onS v * gp s 3)) (by omega) ⟨(hT.sG (by decide) (by decide) (by decide) (by decide)).sG (by decide) (by decide) (by decide) (by decide), rfl⟩
    refine Eq.trans ?_ (h2.trans ?_)
    · rfl
    · rw [eX5_givesBonuses_46]
      simp only [eX5_givesBonuses_0, eX5_givesBonuses_1, eX5_givesBonuses_4, eX5_givesBonuses_5, eX5_givesBonuses_8, eX5_givesBonuses_9, eX5_givesBonuses_10, eX5_givesBonuses_11, eX5_givesBonuses_12, eX5_givesBonuses_13, eX5_givesBonuses_14, eX5_givesBonuses_17, eX5_givesBonuses_18, eX5_givesBonuses_19, eX5_givesBonuses_22, eX5_givesBonuses_23, eX5_givesBonuses_24, eX5_givesBonuses_27, eX5_givesBonuses_28, eX5_givesBonuses_29, eX5_givesBonuses_30, eX5_givesBonuses_31, eX5_givesBonuses_32, eX5_givesBonuses_33, eX5_givesBonuses_34, eX5_givesBonuses_37, eX5_givesBonuses_39, eX5_givesBonuses_40, eX5_givesBonuses_41, eX5_givesBonuses_42, eX5_givesBonuses_43, eX5_givesBonuses_44, eX5_givesBonuses_45, eX5_givesBonuses_47, eX5_givesBonuses_48, eX5_givesBonuses_51, eX5_givesBonuses_52, eX5_givesBonuses_53, eX5_givesBonuses_56, eX5_givesBonuses_57, eX5_givesBonuses_58, eX5_givesBonuses_61, eX5_givesBonuses_64, eX5_givesBonuses_65, eX5_givesBonuses_66, eX5_givesBonuses_67, eX5_givesBonuses_70, eX5_givesBonuses_71, eX5_givesBonuses_72, eX5_givesBonuses_75, eX5_givesBonuses_76, eX5_givesBonuses_79, eX5_givesBonuses_80, eX5_givesBonuses_81, eX5_givesBonuses_84, eX5_givesBonuses_85, eX5_givesBonuses_86, eX5_givesBonuses_87, eX5_givesBonuses_88, eX5_givesBonuses_89, eX5_givesBonuses_92, eX5_givesBonuses_95, one0, gk, gr, gj, gw, rv_some, ret_i, ret_n, Option.bind_some, List.cons_append, List.nil_append, z0, z1, zi, zj, i10, i01, row_s, row_row, true_or, or_true, eq_self, not_false_eq_true, not_true_eq_false, if_true, if_false, ite_not, Decidable.not_not, and_true, true_and, or_false, false_or, lm0 hM, lm1 hM, lm5 hM, ixG0, ixG1, ixG2, ixG3, ixG4, ixG5, ixG6, ixG7, ixG8, clG0, clG1, clG2, clG3, clG4, clG5, clG6, clG7, clG8, rdG0, rdG1, rdG2, rdG3, rdG4, rdG5, rdG6, rdG7, rdG8, wrG0, wrG1, wrG2, wrG3, wrG4, wrG5, wrG6, wrG7, wrG8, hT2.1.2.1.1, lt_f (Nat.le_refl nH) (by omega)]
def agaA (s : St) (r : Nat) : St := sR (sR (sR (sR (sR (sR s r 3 0) r 4 0) r 6 0) r 7 0) r 10 0) r 11 0
theorem X5_isNewAgain_ev (hM : LM F o) (hT : Ty s nA nH nR) {r : Nat} (hrR : r < nR) : pm_ev tb xl xs mX5_isNewAgain 0 [some (.ref o), some (.int (nI r)), none] [] (pm_G F (row I (o + 1) s)) = some (none, pm_G F (row I (o + 1) (unfS (agaA s r) nR r).1)) := by
  have hr : r < 40 := by have := hT.2.2.1.2; omega
  have hTA : Ty (agaA s r) nA nH nR := (((((hT.sR hr (by decide) (by decide) (by decide)).sR hr (by decide) (by decide) (by decide)).sR hr (by decide) (by decide) (by decide)).sR hr (by decide) (by decide) (by decide)).sR hr (by decide) (by decide) (by decide)).sR hr (by decide) (by decide) (by decide)
  have h := X5_unfolds_ev (xl := xl) (xs := xs) (I := I) hM hTA (k := r)
  unfold agaA at h ⊢
  simp only [eX5_isNewAgain_0, eX5_isNewAgain_1, eX5_isNewAgain_4, eX5_isNewAgain_5, eX5_isNewAgain_6, eX5_isNewAgain_9, eX5_isNewAgain_10, eX5_isNewAgain_11, eX5_isNewAgain_12, eX5_isNewAgain_15, eX5_isNewAgain_16, eX5_isNewAgain_17, eX5_isNewAgain_20, eX5_isNewAgain_21, eX5_isNewAgain_22, eX5_isNewAgain_23, eX5_isNewAgain_26, eX5_isNewAgain_27, eX5_isNewAgain_29, eX5_isNewAgain_32, eX5_isNewAgain_33, eX5_isNewAgain_34, eX5_isNewAgain_35, eX5_isNewAgain_38, eX5_isNewAgain_39, eX5_isNewAgain_41, eX5_isNewAgain_44, eX5_isNewAgain_45, eX5_isNewAgain_46, eX5_isNewAgain_47, eX5_isNewAgain_50, eX5_isNewAgain_51, eX5_isNewAgain_53, eX5_isNewAgain_56, eX5_isNewAgain_57, eX5_isNewAgain_58, eX5_isNewAgain_59, eX5_isNewAgain_62, eX5_isNewAgain_63, eX5_isNewAgain_65, eX5_isNewAgain_68, eX5_isNewAgain_69, eX5_isNewAgain_70, eX5_isNewAgain_71, eX5_isNewAgain_72, eX5_isNewAgain_75, eX5_isNewAgain_76, one0, gk, gr, gj, gw, rv_some, ret_i, ret_n, Option.bind_some, List.cons_append, List.nil_append, z0, z1, zi, zj, i10, i01, row_s, row_row, true_or, or_true, eq_self, not_false_eq_true, not_true_eq_false, if_true, if_false, ite_not, Decidable.not_not, and_true, true_and, or_false, false_or, lm0 hM, lm1 hM, lm5 hM, X5_at_ev0, X5_at_ev1, X5_at_ev2, X5_at_ev3, X5_at_ev4, X5_at_ev5, X5_at_ev6, X5_at_ev7, X5_at_ev8, X5_at_ev9, X5_at_ev10, X5_at_ev11, ixR0 hr, clR0 hr, rdR0, wrR0, ixR1 hr, clR1 hr, rdR1, wrR1, ixR2 hr, clR2 hr, rdR2, wrR2, ixR3 hr, clR3 hr, rdR3, wrR3, ixR4 hr, clR4 hr, rdR4, wrR4, ixR5 hr, clR5 hr, rdR5, wrR5, ixR6 hr, clR6 hr, rdR6, wrR6, ixR7 hr, clR7 hr, rdR7, wrR7, ixR8 hr, clR8 hr, rdR8, wrR8, ixR9 hr, clR9 hr, rdR9, wrR9, ixR10 hr, clR10 hr, rdR10, wrR10, ixR11 hr, clR11 hr, rdR11, wrR11, hr, h]
end MOD4
