/-! the model remembers; undo of both -/
def mm (I : Nat → Nat → Int32) (p q s : Nat → Int32) : Nat → Nat → Int32 := fun a => if a = 583 then q else if a = 584 then s else if a = 585 then p else I a
section KEEP
variable {xl : Nat} {xs : Nat → Int32} {F : pm_F} {I : Nat → Nat → Int32} {p q s f : Nat → Int32} {nA nH nR N n m : Nat} {H : Nat → St}
theorem mm3 : mm I p q s 583 = q := rfl
theorem mm4 : mm I p q s 584 = s := rfl
theorem mm5 : mm I p q s 585 = p := rfl
theorem mw3 : row (mm I p q s) 583 f = mm I p f s := by funext a; unfold row mm; split <;> rfl
theorem mw4 : row (mm I p q s) 584 f = mm I p q f := by
  funext a
  unfold row mm
  by_cases h : a = 584
  · subst h; rfl
  · rw [if_neg h]
    by_cases h3 : a = 583
    · rw [if_pos h3, if_pos h3]
    · rw [if_neg h3, if_neg h3, if_neg h, if_neg h]
theorem mw5 : row (mm I p q s) 585 f = mm I f q s := by
  funext a
  unfold row mm
  by_cases h : a = 585
  · subst h; rfl
  · rw [if_neg h]
    by_cases h3 : a = 583
    · rw [if_pos h3, if_pos h3]
    · by_cases h4 : a = 584
      · rw [if_neg h3, if_neg h3, if_pos h4, if_pos h4]
      · rw [if_neg h3, if_neg h3, if_neg h4, if_neg h4, if_neg h, if_neg h]
theorem mm_of (I : Nat → Nat → Int32) (s : Nat → Int32) : row I 584 s = mm I (I 585) (I 583) s := by
  funext a
  unfold row mm
  by_cases h : a = 584
  · subst h; rfl
  · rw [if_neg h]
    by_cases h3 : a = 583
    · rw [if_pos h3, h3]
    · rw [if_neg h3, if_neg h]
      by_cases h5 : a = 585
      · rw [if_pos h5, h5]
      · rw [if_neg h5]
theorem gqv {a : Nat} : gq f a = f a := rfl
theorem X5_keeps_ev (hM : LM F 583) (hH : MHs I n H) (hn : n ≤ 8) : ∃ I', pm_ev tb xl xs mX5_keeps 0 [some (.ref 583), none] [] (pm_G F (row I 584 s)) = some (none, pm_G F (row I' 584 s)) ∧ MHs I' (nx8 n) (push H n s) ∧ ∀ k, k < 583 → I' k = I k := by
  obtain ⟨h3, hh⟩ := hH
  have second : ∀ (P Q : Nat → Int32) (c : Nat) (l : Option Value), c < 8 → Q 3 = nI c → ∃ P' : Nat → Int32, (∀ k, P' k = if 539 * c ≤ k ∧ k < 539 * c + 539 then s (k - 539 * c) else P k) ∧ pm_ev tb xl xs mX5_keeps 50 [some (.ref 583), l] [] (pm_G F (mm I P Q s)) = some (none, pm_G F (mm I P' (upd Q 3 (nI (c + 1))) s)) := by
    intro P Q c l hc hQ
    have key : ∀ i x, i < 539 → True → pm_ev tb xl xs mX5_keeps 52 [some (.ref 583), some (.int (nI i))] [] (pm_G F (mm I x Q s)) = pm_ev tb xl xs mX5_keeps 52 [some (.ref 583), some (.int (nI (i + 1)))] [] (pm_G F (mm I (upd x (539 * c + i) (s i)) Q s)) := by
      intro i x hi _
      have e1 : (nI i < 539) = True := lt_t (n := 539) hi (by omega)
      have e2 : (539 : Int32) * nI c + nI i = nI (539 * c + i) := by
        rw [show (539 : Int32) = nI 539 from rfl, pk_mul, nI_add]
      have e3 : vp_in (nI (539 * c + i)) 4312 := ix_n (by omega) (by omega)
      have e4 : (nI (539 * c + i)).toNatClampNeg = 539 * c + i := cl_n (by omega)
      have e5 : vp_in (nI i) 539 := ix_n hi (by omega)
      have e6 : (nI i).toNatClampNeg = i := cl_n (by omega)
      rw [eX5_keeps_52]
      simp only [eX5_keeps_0, eX5_keeps_1, eX5_keeps_4, eX5_keeps_6, eX5_keeps_9, eX5_keeps_10, eX5_keeps_12, eX5_keeps_15, eX5_keeps_18, eX5_keeps_19, eX5_keeps_22, eX5_keeps_23, eX5_keeps_24, eX5_keeps_27, eX5_keeps_28, eX5_keeps_31, eX5_keeps_32, eX5_keeps_33, eX5_keeps_34, eX5_keeps_37, eX5_keeps_40, eX5_keeps_41, eX5_keeps_42, eX5_keeps_45, eX5_keeps_46, eX5_keeps_47, eX5_keeps_50, eX5_keeps_51, eX5_keeps_53, eX5_keeps_56, eX5_keeps_59, eX5_keeps_60, eX5_keeps_63, eX5_keeps_66, eX5_keeps_67, eX5_keeps_70, eX5_keeps_71, eX5_keeps_72, eX5_keeps_73, eX5_keeps_74, eX5_keeps_77, eX5_keeps_78, eX5_keeps_79, eX5_keeps_80, eX5_keeps_83, eX5_keeps_86, eX5_keeps_87, eX5_keeps_88, eX5_keeps_91, eX5_keeps_92, eX5_keeps_93, eX5_keeps_96, one0, gk, gr, gj, gw, rv_some, ret_i, ret_n, Option.bind_some, List.cons_append, List.nil_append, z0, z1, zi, zj, i10, i01, row_s, row_row, true_or, or_true, eq_self, not_false_eq_true, not_true_eq_false, if_true, if_false, ite_not, Decidable.not_not, and_true, true_and, or_false, false_or, lm0 hM, lm1 hM, lm2 hM, lm5 hM, lm6 hM, Nat.reduceAdd, mm3, mm4, mm5, mw3, mw4, mw5, gqv, hQ, e1, e2, e3, e4, e5, e6, nI_1]
    have h1 := lp_ev0 539 (fun i (x : Nat → Int32) => pm_ev tb xl xs mX5_keeps 52 [some (.ref 583), some (.int (nI i))] [] (pm_G F (mm I x Q s))) (fun i x => upd x (539 * c + i) (s i)) (fun i x hi => key i x hi trivial) P
    refine ⟨lp (fun i x => upd x (539 * c + i) (s i)) 0 539 P, ?_, ?_⟩
    · intro k
      have := lp_inv (fun i (x : Nat → Int32) => ∀ k, x k = if 539 * c ≤ k ∧ k < 539 * c + i then s (k - 539 * c) else P k) (fun i x => upd x (539 * c + i) (s i)) 539 (fun i x hi hx k => by
        show upd x (539 * c + i) (s i) k = _
        unfold upd
        by_cases e : k = 539 * c + i
        · rw [if_pos e, if_pos (by omega)]
          exact congrArg s (by omega)
        · rw [if_neg e, hx k]
          by_cases e2 : 539 * c ≤ k ∧ k < 539 * c + i
          · rw [if_pos e2, if_pos (by omega)]
          · rw [if_neg e2, if_neg (by omega)]) 539 0 P (by omega) (fun k => by rw [if_neg (by omega)])
      exact this k
    · have e1 : (nI 539 < 539) = False := lt_f (i := 539) (n := 539) (by omega) (by omega)
      simp only [eX5_keeps_50, eX5_keeps_51, one0, gk, gr, gj, gw, rv_some, ret_i, ret_n, Option.bind_some, List.cons_append, List.nil_append, z0, z1, zi, zj, i10, i01, row_s, row_row, true_or, or_true, eq_self, not_false_eq_true, not_true_eq_false, if_true, if_false, ite_not, Decidable.not_not, and_true, true_and, or_false, false_or]
      refine h1.trans ?_
      rw [eX5_keeps_52]
      simp only [eX5_keeps_0, eX5_keeps_1, eX5_keeps_4, eX5_keeps_6, eX5_keeps_9, eX5_keeps_10, eX5_keeps_12, eX5_keeps_15, eX5_keeps_18, eX5_keeps_19, eX5_keeps_22, eX5_keeps_23, eX5_keeps_24, eX5_keeps_27, eX5_keeps_28, eX5_keeps_31, eX5_keeps_32, eX5_keeps_33, eX5_keeps_34, eX5_keeps_37, eX5_keeps_40, eX5_keeps_41, eX5_keeps_42, eX5_keeps_45, eX5_keeps_46, eX5_keeps_47, eX5_keeps_50, eX5_keeps_51, eX5_keeps_53, eX5_keeps_56, eX5_keeps_59, eX5_keeps_60, eX5_keeps_63, eX5_keeps_66, eX5_keeps_67, eX5_keeps_70, eX5_keeps_71, eX5_keeps_72, eX5_keeps_73, eX5_keeps_74, eX5_keeps_77, eX5_keeps_78, eX5_keeps_79, eX5_keeps_80, eX5_keeps_83, eX5_keeps_86, eX5_keeps_87, eX5_keeps_88, eX5_keeps_91, eX5_keeps_92, eX5_keeps_93, eX5_keeps_96, one0, gk, gr, gj, gw, rv_some, ret_i, ret_n, Option.bind_some, List.cons_append, List.nil_append, z0, z1, zi, zj, i10, i01, row_s, row_row, true_or, or_true, eq_self, not_false_eq_true, not_true_eq_false, if_true, if_false, ite_not, Decidable.not_not, and_true, true_and, or_false, false_or, lm0 hM, e1, mm3, mw3, gqv, hQ, nI_1]
  rw [mm_of]
  by_cases h8 : n = 8
  · subst h8
    have key : ∀ i x, i < 3773 → pm_ev tb xl xs mX5_keeps 11 [some (.ref 583), some (.int (nI i))] [] (pm_G F (mm I x (I 583) s)) = pm_ev tb xl xs mX5_keeps 11 [some (.ref 583), some (.int (nI (i + 1)))] [] (pm_G F (mm I (upd x i (x (i + 539))) (I 583) s)) := by
      intro i x hi
      have e1 : (nI i < 3773) = True := lt_t (n := 3773) hi (by omega)
      have e2 : nI i + (539 : Int32) = nI (i + 539) := by
        rw [show (539 : Int32) = nI 539 from rfl, nI_add]
      have e3 : vp_in (nI (i + 539)) 4312 := ix_n (by omega) (by omega)
      have e4 : (nI (i + 539)).toNatClampNeg = i + 539 := cl_n (by omega)
      have e5 : vp_in (nI i) 4312 := ix_n (by omega) (by omega)
      have e6 : (nI i).toNatClampNeg = i := cl_n (by omega)
      rw [eX5_keeps_11]
      simp only [eX5_keeps_0, eX5_keeps_1, eX5_keeps_4, eX5_keeps_6, eX5_keeps_9, eX5_keeps_10, eX5_keeps_12, eX5_keeps_15, eX5_keeps_18, eX5_keeps_19, eX5_keeps_22, eX5_keeps_23, eX5_keeps_24, eX5_keeps_27, eX5_keeps_28, eX5_keeps_31, eX5_keeps_32, eX5_keeps_33, eX5_keeps_34, eX5_keeps_37, eX5_keeps_40, eX5_keeps_41, eX5_keeps_42, eX5_keeps_45, eX5_keeps_46, eX5_keeps_47, eX5_keeps_53, eX5_keeps_56, eX5_keeps_59, eX5_keeps_60, eX5_keeps_63, eX5_keeps_66, eX5_keeps_67, eX5_keeps_70, eX5_keeps_71, eX5_keeps_72, eX5_keeps_73, eX5_keeps_74, eX5_keeps_77, eX5_keeps_78, eX5_keeps_79, eX5_keeps_80, eX5_keeps_83, eX5_keeps_86, eX5_keeps_87, eX5_keeps_88, eX5_keeps_91, eX5_keeps_92, eX5_keeps_93, eX5_keeps_96, one0, gk, gr, gj, gw, rv_some, ret_i, ret_n, Option.bind_some, List.cons_append, List.nil_append, z0, z1, zi, zj, i10, i01, row_s, row_row, true_or, or_true, eq_self, not_false_eq_true, not_true_eq_false, if_true, if_false, ite_not, Decidable.not_not, and_true, true_and, or_false, false_or, lm0 hM, lm1 hM, lm2 hM, lm5 hM, lm6 hM, Nat.reduceAdd, mm3, mm4, mm5, mw3, mw4, mw5, gqv, e1, e2, e3, e4, e5, e6, nI_1]
    have h1 := lp_ev0 3773 (fun i (x : Nat → Int32) => pm_ev tb xl xs mX5_keeps 11 [some (.ref 583), some (.int (nI i))] [] (pm_G F (mm I x (I 583) s))) (fun i x => upd x i (x (i + 539))) (fun i x hi => key i x hi) (I 585)
    have hP : ∀ k, lp (fun i (x : Nat → Int32) => upd x i (x (i + 539))) 0 3773 (I 585) k = if k < 3773 then I 585 (k + 539) else I 585 k := by
      intro k
      have := lp_inv (fun i (x : Nat → Int32) => ∀ k, x k = if k < i then I 585 (k + 539) else I 585 k) (fun i x => upd x i (x (i + 539))) 3773 (fun i x hi hx k => by
        show upd x i (x (i + 539)) k = _
        unfold upd
        by_cases e : k = i
        · rw [if_pos e, if_pos (by omega), hx, if_neg (by omega), e]
        · rw [if_neg e, hx k]
          by_cases e2 : k < i
          · rw [if_pos e2, if_pos (by omega)]
          · rw [if_neg e2, if_neg (by omega)]) 3773 0 (I 585) (by omega) (fun k => by rw [if_neg (by omega)])
      exact this k
    generalize lp (fun i (x : Nat → Int32) => upd x i (x (i + 539))) 0 3773 (I 585) = P1 at h1 hP
    obtain ⟨P', hP', hE⟩ := second P1 (upd (I 583) 3 7) 7 (some (.int (nI 3773))) (by omega) rfl
    refine ⟨mm I P' (upd (upd (I 583) 3 7) 3 (nI 8)) s, ?_, ⟨rfl, fun j hj k hk => ?_⟩, fun k hk => ?_⟩
    · have e1 : (nI 3773 < 3773) = False := lt_f (i := 3773) (n := 3773) (by omega) (by omega)
      have e2 : I 583 3 = 8 := h3
      have e3 : (8 : Int32) - 1 = 7 := by decide
      rw [mw4]
      simp only [eX5_keeps_0, eX5_keeps_1, eX5_keeps_4, eX5_keeps_6, eX5_keeps_9, eX5_keeps_10, one0, gk, gr, gj, gw, rv_some, ret_i, ret_n, Option.bind_some, List.cons_append, List.nil_append, z0, z1, zi, zj, i10, i01, row_s, row_row, true_or, or_true, eq_self, not_false_eq_true, not_true_eq_false, if_true, if_false, ite_not, Decidable.not_not, and_true, true_and, or_false, false_or, lm0 hM, mm3, gqv, e2]
      refine h1.trans ?_
      rw [eX5_keeps_11]
      simp only [eX5_keeps_12, eX5_keeps_15, eX5_keeps_18, eX5_keeps_19, eX5_keeps_22, eX5_keeps_23, eX5_keeps_24, eX5_keeps_27, eX5_keeps_28, eX5_keeps_31, eX5_keeps_32, eX5_keeps_33, eX5_keeps_34, eX5_keeps_37, eX5_keeps_40, eX5_keeps_41, eX5_keeps_42, eX5_keeps_45, eX5_keeps_46, eX5_keeps_47, one0, gk, gr, gj, gw, rv_some, ret_i, ret_n, Option.bind_some, List.cons_append, List.nil_append, z0, z1, zi, zj, i10, i01, row_s, row_row, true_or, or_true, eq_self, not_false_eq_true, not_true_eq_false, if_true, if_false, ite_not, Decidable.not_not, and_true, true_and, or_false, false_or, lm0 hM, e1, mm3, mw3, gqv, e2, e3]
      exact hE
    · show P' (539 * j + k) = push H 8 s j k
      have hj : j < 8 := hj
      unfold push
      rw [hP', if_pos rfl]
      by_cases e : j < 7
      · rw [if_neg (by omega), if_pos e, hP, if_pos (by omega)]
        have := hh (j + 1) (by omega) k hk
        rw [← this]
        exact congrArg (I 585) (by omega)
      · rw [if_pos (by omega), if_neg e]
        exact congrArg s (by omega)
    · unfold mm
      rw [if_neg (by omega), if_neg (by omega), if_neg (by omega)]
  · obtain ⟨P', hP', hE⟩ := second (I 585) (I 583) n none (by omega) h3
    refine ⟨mm I P' (upd (I 583) 3 (nI (n + 1))) s, ?_, ⟨?_, fun j hj k hk => ?_⟩, fun k hk => ?_⟩
    · have e1 : (nI n = 8) = False := by
        have : (nI n = nI 8) = (n = 8) := eq_iff (by omega) (by omega)
        exact this.trans (eq_false h8)
      rw [mw4]
      simp only [eX5_keeps_0, eX5_keeps_1, eX5_keeps_4, eX5_keeps_6, eX5_keeps_9, eX5_keeps_10, one0, gk, gr, gj, gw, rv_some, ret_i, ret_n, Option.bind_some, List.cons_append, List.nil_append, z0, z1, zi, zj, i10, i01, row_s, row_row, true_or, or_true, eq_self, not_false_eq_true, not_true_eq_false, if_true, if_false, ite_not, Decidable.not_not, and_true, true_and, or_false, false_or, lm0 hM, mm3, gqv, h3, e1]
      exact hE
    · show upd (I 583) 3 (nI (n + 1)) 3 = nI (nx8 n)
      unfold nx8
      rw [if_neg h8]
      rfl
    · show P' (539 * j + k) = push H n s j k
      unfold nx8 at hj
      rw [if_neg h8] at hj
      unfold push
      rw [hP', if_neg h8]
      by_cases e : j = n
      · rw [if_pos e, if_pos (by omega)]
        subst e
        exact congrArg s (by omega)
      · rw [if_neg e, if_neg (by omega)]
        exact hh j (by omega) k hk
    · unfold mm
      rw [if_neg (by omega), if_neg (by omega), if_neg (by omega)]
theorem X5_undo_ev (hM : LM F 583) (hH : MHs I (n + 1) H) (hn : n < 8) : ∃ I' s', pm_ev tb xl xs mX5_undo 0 [some (.ref 583), none] [] (pm_G F (row I 584 s)) = some (some (.int (nI n)), pm_G F (row I' 584 s')) ∧ (MHs I' n H ∧ ∀ k, k < 539 → s' k = H n k) ∧ ∀ k, k < 583 → I' k = I k := by
  obtain ⟨h3, hh⟩ := hH
  rw [mm_of]
  have key : ∀ i x, i < 539 → pm_ev tb xl xs mX5_undo 23 [some (.ref 583), some (.int (nI i))] [] (pm_G F (mm I (I 585) (upd (I 583) 3 (nI n)) x)) = pm_ev tb xl xs mX5_undo 23 [some (.ref 583), some (.int (nI (i + 1)))] [] (pm_G F (mm I (I 585) (upd (I 583) 3 (nI n)) (upd x i (I 585 (539 * n + i))))) := by
    intro i x hi
    have e1 : (nI i < 539) = True := lt_t (n := 539) hi (by omega)
    have e2 : (539 : Int32) * nI n + nI i = nI (539 * n + i) := by
      rw [show (539 : Int32) = nI 539 from rfl, pk_mul, nI_add]
    have e3 : vp_in (nI (539 * n + i)) 4312 := ix_n (by omega) (by omega)
    have e4 : (nI (539 * n + i)).toNatClampNeg = 539 * n + i := cl_n (by omega)
    have e5 : vp_in (nI i) 539 := ix_n hi (by omega)
    have e6 : (nI i).toNatClampNeg = i := cl_n (by omega)
    have e7 : upd (I 583) 3 (nI n) 3 = nI n := rfl
    rw [eX5_undo_23]
    simp only [eX5_undo_0, eX5_undo_1, eX5_undo_4, eX5_undo_7, eX5_undo_10, eX5_undo_11, eX5_undo_12, eX5_undo_13, eX5_undo_16, eX5_undo_17, eX5_undo_18, eX5_undo_21, eX5_undo_22, eX5_undo_24, eX5_undo_27, eX5_undo_30, eX5_undo_31, eX5_undo_34, eX5_undo_35, eX5_undo_36, eX5_undo_39, eX5_undo_42, eX5_undo_43, eX5_undo_46, eX5_undo_47, eX5_undo_48, eX5_undo_49, eX5_undo_50, eX5_undo_51, eX5_undo_54, eX5_undo_57, eX5_undo_58, eX5_undo_61, one0, gk, gr, gj, gw, rv_some, ret_i, ret_n, Option.bind_some, List.cons_append, List.nil_append, z0, z1, zi, zj, i10, i01, row_s, row_row, true_or, or_true, eq_self, not_false_eq_true, not_true_eq_false, if_true, if_false, ite_not, Decidable.not_not, and_true, true_and, or_false, false_or, lm0 hM, lm1 hM, lm2 hM, lm5 hM, lm6 hM, Nat.reduceAdd, mm3, mm4, mm5, mw3, mw4, mw5, gqv, e1, e2, e3, e4, e5, e6, e7, nI_1]
  have h1 := lp_ev0 539 (fun i (x : Nat → Int32) => pm_ev tb xl xs mX5_undo 23 [some (.ref 583), some (.int (nI i))] [] (pm_G F (mm I (I 585) (upd (I 583) 3 (nI n)) x))) (fun i x => upd x i (I 585 (539 * n + i))) (fun i x hi => key i x hi) s
  have hP : ∀ k, k < 539 → lp (fun i (x : Nat → Int32) => upd x i (I 585 (539 * n + i))) 0 539 s k = I 585 (539 * n + k) := by
    intro k hk
    have := lp_inv (fun i (x : Nat → Int32) => ∀ k, k < i → x k = I 585 (539 * n + k)) (fun i x => upd x i (I 585 (539 * n + i))) 539 (fun i x hi hx k hk => by
      show upd x i (I 585 (539 * n + i)) k = _
      unfold upd
      by_cases e : k = i
      · rw [if_pos e, e]
      · rw [if_neg e, hx k (by omega)]) 539 0 s (by omega) (fun k hk => absurd hk (by omega))
    exact this k hk
  refine ⟨mm I (I 585) (upd (I 583) 3 (nI n)) s, lp (fun i (x : Nat → Int32) => upd x i (I 585 (539 * n + i))) 0 539 s, ?_, ⟨⟨rfl, fun j hj k hk => hh j (by omega) k hk⟩, fun k hk => (hP k hk).trans (hh n (by omega) k hk)⟩, fun k hk => ?_⟩
  · have e1 : (nI (n + 1) = 0) = False := by
      have : (nI (n + 1) = nI 0) = (n + 1 = 0) := eq_iff (by omega) (by omega)
      exact this.trans (eq_false (by omega))
    have e2 : (nI 539 < 539) = False := lt_f (i := 539) (n := 539) (by omega) (by omega)
    have e7 : upd (I 583) 3 (nI n) 3 = nI n := rfl
    rw [mw4]
    simp only [eX5_undo_0, eX5_undo_1, eX5_undo_4, eX5_undo_7, eX5_undo_10, eX5_undo_11, eX5_undo_12, eX5_undo_13, eX5_undo_16, eX5_undo_17, eX5_undo_18, eX5_undo_21, eX5_undo_22, one0, gk, gr, gj, gw, rv_some, ret_i, ret_n, Option.bind_some, List.cons_append, List.nil_append, z0, z1, zi, zj, i10, i01, row_s, row_row, true_or, or_true, eq_self, not_false_eq_true, not_true_eq_false, if_true, if_false, ite_not, Decidable.not_not, and_true, true_and, or_false, false_or, lm0 hM, mm3, mw3, gqv, h3, e1, sub1]
    refine h1.trans ?_
    rw [eX5_undo_23]
    simp only [eX5_undo_0, eX5_undo_1, eX5_undo_4, eX5_undo_7, eX5_undo_10, eX5_undo_11, eX5_undo_12, eX5_undo_13, eX5_undo_16, eX5_undo_17, eX5_undo_18, eX5_undo_21, eX5_undo_22, eX5_undo_24, eX5_undo_27, eX5_undo_30, eX5_undo_31, eX5_undo_34, eX5_undo_35, eX5_undo_36, eX5_undo_39, eX5_undo_42, eX5_undo_43, eX5_undo_46, eX5_undo_47, eX5_undo_48, eX5_undo_49, eX5_undo_50, eX5_undo_51, eX5_undo_54, eX5_undo_57, eX5_undo_58, eX5_undo_61, one0, gk, gr, gj, gw, rv_some, ret_i, ret_n, Option.bind_some, List.cons_append, List.nil_append, z0, z1, zi, zj, i10, i01, row_s, row_row, true_or, or_true, eq_self, not_false_eq_true, not_true_eq_false, if_true, if_false, ite_not, Decidable.not_not, and_true, true_and, or_false, false_or, lm0 hM, e2, mm3, gqv, e7]
  · unfold mm
    rw [if_neg (by omega), if_neg (by omega), if_neg (by omega)]
theorem X4_undo_ev (hD : LD F) (hC : CHs N I (n + 1) m H) : ∃ I' m' nA nH nR, pm_ev tb xl xs mX4_undo 0 [some (.ref 0)] [] (pm_G F I) = some (some (.int (nI n)), pm_G F I') ∧ ((RB I' 1 (H n) nA nH nR ∧ FI N (H n) nA nH nR) ∧ CHs N I' n m' H) ∧ ∀ k, 582 ≤ k → I' k = I k := by
  obtain ⟨h4, h5, hm, hn, hH⟩ := hC
  obtain ⟨nA, nH, nR, hR, hF⟩ := hH n (by omega)
  have hsl : ∃ m', m' < 8 ∧ slot (n + 1) m n = 118 + 58 * m' ∧ m' = if m = 0 then 7 else m - 1 := by
    refine ⟨if m = 0 then 7 else m - 1, by split <;> omega, ?_, rfl⟩
    unfold slot
    split <;> omega
  obtain ⟨m', hm', hs, hmm⟩ := hsl
  rw [hs] at hR
  have h6 := hF.1.1.1.2
  have h8 := hF.1.1.2.1.2
  have h40 := hF.1.1.2.2.1.2
  obtain ⟨J, e, hRJ, hFJ⟩ := X1_copyFrom_ev (xl := xl) (xs := xs) (I := pm_u2 I 0 4 (nI m')) (ldB hD) (ldb hD hm') (Or.inr (by omega)) (hR.to h6 h8 h40 (fun k g1 g2 => u2_off (by omega)) (fun _ _ => rfl)) hF.1
  have j5 : J 0 5 = nI (n + 1) := by rw [hFJ 0 (by omega)]; exact h5
  have e1 : (nI (n + 1) = 0) = False := by
    have : (nI (n + 1) = nI 0) = (n + 1 = 0) := eq_iff (by omega) (by omega)
    exact this.trans (eq_false (by omega))
  have e0 : (nI m = 0) = (m = 0) := eq_iff (n := 0) (by omega) (by omega)
  have hoff : ∀ k, k ≠ 0 → pm_u2 J 0 5 (nI n) k = J k := fun k hk => u2_off hk
  refine ⟨pm_u2 J 0 5 (nI n), m', nA, nH, nR, ?_, ⟨⟨hRJ.to h6 h8 h40 (fun k g1 g2 => hoff k (by omega)) (fun _ _ => rfl), hF⟩, ?_, ?_, hm', by omega, fun j hj => ?_⟩, fun k hk => ?_⟩
  · by_cases h0 : m = 0
    · have hm7 : m' = 7 := by rw [hmm, if_pos h0]
      subst hm7
      have e' : pm_ev tb xl xs mX1_copyFrom 0 [some (.ref 1), some (.ref 524), none] [] (pm_G F (pm_u2 I 0 4 7)) = some (none, pm_G F J) := e
      have r7 : fr F 117 7 = some 524 := ldr hD hm'
      have e00 : (nI 0 = (0 : Int32)) = True := eq_true rfl
      have c7 : (7 : Int32).toNatClampNeg = 7 := by decide +kernel
      have v7 : vp_in 7 8 := ix8 hm'
      simp only [eX4_undo_0, eX4_undo_1, eX4_undo_4, eX4_undo_7, eX4_undo_10, eX4_undo_11, eX4_undo_12, eX4_undo_13, eX4_undo_16, eX4_undo_19, eX4_undo_21, eX4_undo_24, eX4_undo_25, eX4_undo_28, eX4_undo_29, eX4_undo_30, eX4_undo_33, eX4_undo_34, eX4_undo_37, eX4_undo_38, eX4_undo_41, eX4_undo_42, eX4_undo_45, eX4_undo_46, eX4_undo_49, eX4_undo_50, eX4_undo_51, eX4_undo_54, eX4_undo_55, eX4_undo_56, eX4_undo_59, eX4_undo_60, eX4_undo_63, one0, and_false, false_and, gk, gr, gi, gs, rv_some, ret_i, ret_n, Option.bind_some, List.cons_append, List.nil_append, z0, z1, zi, zj, i10, i01, true_or, or_true, eq_self, not_false_eq_true, not_true_eq_false, if_true, if_false, ite_not, Decidable.not_not, and_true, true_and, or_false, false_or, Nat.reduceLeDiff, Nat.reduceMod, Nat.reduceEqDiff, ld0 hD, ld1 hD, ld3 hD, ld5 hD, lb0 (ldB hD), h4, h5, e1, e0, h0, u2_r, e00, c7, v7, r7, e', j5, sub1]
    · have hm7 : m' + 1 = m := by rw [hmm, if_neg h0]; omega
      have e2 : nI m - 1 = nI m' := by rw [← hm7]; exact sub1 m'
      simp only [eX4_undo_0, eX4_undo_1, eX4_undo_4, eX4_undo_7, eX4_undo_10, eX4_undo_11, eX4_undo_12, eX4_undo_13, eX4_undo_16, eX4_undo_19, eX4_undo_21, eX4_undo_24, eX4_undo_25, eX4_undo_28, eX4_undo_29, eX4_undo_30, eX4_undo_33, eX4_undo_34, eX4_undo_37, eX4_undo_38, eX4_undo_41, eX4_undo_42, eX4_undo_45, eX4_undo_46, eX4_undo_49, eX4_undo_50, eX4_undo_51, eX4_undo_54, eX4_undo_55, eX4_undo_56, eX4_undo_59, eX4_undo_60, eX4_undo_63, one0, and_false, false_and, gk, gr, gi, gs, rv_some, ret_i, ret_n, Option.bind_some, List.cons_append, List.nil_append, z0, z1, zi, zj, i10, i01, true_or, or_true, eq_self, not_false_eq_true, not_true_eq_false, if_true, if_false, ite_not, Decidable.not_not, and_true, true_and, or_false, false_or, Nat.reduceLeDiff, Nat.reduceMod, Nat.reduceEqDiff, ld0 hD, ld1 hD, ld3 hD, ld5 hD, lb0 (ldB hD), h4, h5, e1, e0, h0, e2, u2_r, ix8 hm', cl8 hm', ldr hD hm', e, j5, sub1]
  · show pm_u2 J 0 5 (nI n) 0 4 = nI m'
    rw [u2_r, if_neg (by omega), hFJ 0 (by omega)]
    rfl
  · rfl
  · obtain ⟨a, b, c, q1, q2⟩ := hH j (by omega)
    refine ⟨a, b, c, ?_, q2⟩
    have e1 : slot n m' j = slot (n + 1) m j := by
      unfold slot
      rw [hmm]
      split <;> omega
    rw [e1]
    refine q1.to q2.1.1.1.2 q2.1.1.2.1.2 q2.1.1.2.2.1.2 (fun k g1 g2 => ?_) (fun _ _ => rfl)
    have : 118 ≤ slot (n + 1) m j := by unfold slot; omega
    rw [hoff k (by omega), hFJ k (by omega), u2_off (by omega)]
  · rw [hoff k (by omega), hFJ k (by omega), u2_off (by omega)]
end KEEP
