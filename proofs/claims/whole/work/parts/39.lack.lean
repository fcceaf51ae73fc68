/-! lack -/
def nsum (f : Nat → Nat) : Nat → Nat
  | 0 => 0
  | n + 1 => nsum f n + f n
/-- what the due ones among the first cost of an asset -/
def pre (s : St) (a : Nat) : Nat → Nat
  | 0 => 0
  | i + 1 => pre s a i + if rp s i 1 = nI a ∧ isDue s i then tn (price s i) else 0
section LACK
variable {xl : Nat} {xs : Nat → Int32} {F : pm_F} {I : Nat → Nat → Int32} {N : Nat} {s : St} {nA nH nR Rb Mb Nb : Nat} {p f : Nat → Int32}
theorem nsum_c {f g : Nat → Nat} : ∀ n, (∀ i, i < n → f i = g i) → nsum f n = nsum g n
  | 0, _ => rfl
  | n + 1, h => by
    show nsum f n + f n = nsum g n + g n
    rw [nsum_c n (fun i hi => h i (by omega)), h n (by omega)]
theorem nsum_u {f g : Nat → Nat} {a d : Nat} : ∀ n, a < n → (∀ i, i < n → i ≠ a → f i = g i) → f a = g a + d → nsum f n = nsum g n + d
  | 0, h, _, _ => absurd h (by omega)
  | n + 1, h, h1, h2 => by
    show nsum f n + f n = nsum g n + g n + d
    by_cases e : n = a
    · subst e
      rw [nsum_c n (fun i hi => h1 i (by omega) (by omega)), h2]
      omega
    · rw [nsum_u n (by omega) (fun i hi => h1 i (by omega)) h2, h1 n (by omega) e]
      omega
theorem nsum_le {f : Nat → Nat} {m : Nat} : ∀ n, (∀ i, i < n → f i ≤ m) → nsum f n ≤ m * n
  | 0, _ => Nat.zero_le _
  | n + 1, h => by
    show nsum f n + f n ≤ m * (n + 1)
    have := nsum_le n (fun i hi => h i (by omega))
    have := h n (by omega)
    rw [Nat.mul_add]
    omega
theorem due4 {r : Nat} (h : Rw s r) (hd : isDue s r) : ¬ rp s r 4 = 0 := by
  obtain ⟨-, -, -, -, e⟩ := h
  rcases hd with hd | hd
  · exact e (Or.inl hd)
  · exact e (Or.inr (Or.inl hd))
theorem pre_s (s : St) (a i : Nat) : pre s a (i + 1) = pre s a i + if rp s i 1 = nI a ∧ isDue s i then tn (price s i) else 0 := rfl
theorem tn_p {c : Nat} (h : c ≤ 2880) : tn (nI c) = c := tn_n (by omega)
theorem pre_le (hI : Iv s nA nH nR) (hB : Bd Rb Mb Nb s nA nH) (a i : Nat) (hi : i ≤ nR) : pre s a i ≤ 2880 * i := by
  induction i with
  | zero => exact Nat.zero_le _
  | succ i ih =>
    have ih := ih (by omega)
    rw [pre_s]
    split
    · rename_i hc
      obtain ⟨c, hc1, -, hc2⟩ := price_n hI hB (show i < nR by omega) (due4 (hI.2 i (by omega)) hc.2)
      rw [hc1, tn_p hc2]
      omega
    · omega
theorem sum_pre (hI : Iv s nA nH nR) (hB : Bd Rb Mb Nb s nA nH) (a : Nat) : sum (fun r => if rp s r 1 = nI a ∧ isDue s r then price s r else 0) nR = nI (pre s a nR) := by
  refine lp_inv (fun i (x : Int32) => x = nI (pre s a i)) _ nR (fun i x hi h => ?_) nR 0 0 (by omega) rfl
  show x + (if rp s i 1 = nI a ∧ isDue s i then price s i else 0) = nI (pre s a (i + 1))
  rw [pre_s]
  rw [h]
  split
  · rename_i hc
    obtain ⟨c, hc1, -, hc2⟩ := price_n hI hB hi (due4 (hI.2 i hi) hc.2)
    rw [hc1, tn_p hc2, nI_add]
  · exact Int32.add_zero _
theorem dmax {a b : Nat} (ha : a < 1000000000) (hb : b < 1000000000) : (if 0 < nI a - nI b then nI a - nI b else 0) = nI (a - b) := by
  rcases Nat.lt_or_ge a b with h | h
  · have h1 := pk_sneg (by omega) h
    have h2 : ¬ 0 < nI a - nI b := fun q => by
      rw [Int32.lt_iff_toInt_lt] at h1 q
      omega
    rw [if_neg h2, show a - b = 0 by omega]
    rfl
  · rw [pk_sub h]
    split
    · rfl
    · rename_i z
      rcases Nat.eq_zero_or_pos (a - b) with q | q
      · rw [q]; rfl
      · exact absurd (nI_lt (a := 0) q (by omega)) z
theorem dmax2 {a b : Nat} (ha : a < 1000000000) (hb : b < 1000000000) : (if nI b < nI a then nI a - nI b else 0) = nI (a - b) := by
  rcases Nat.lt_or_ge b a with h | h
  · rw [if_pos (nI_lt h (by omega)), pk_sub (by omega)]
  · rw [if_neg (nI_nlt h (by omega)), show a - b = 0 by omega]
    rfl
/-- what the assets lack over their pools -/
def lacks (s : St) (nA i : Nat) : Nat := nsum (fun a => pre s a i - tn (ap s a 2)) nA
theorem lacks_le (hI : Iv s nA nH nR) (hB : Bd Rb Mb Nb s nA nH) {i : Nat} (hi : i ≤ nR) : lacks s nA i ≤ 1000000 := by
  have h6 := hI.1.1.2
  have h40 := hI.1.2.2.1.2
  have := nsum_le (f := fun a => pre s a i - tn (ap s a 2)) (m := 115200) nA (fun a ha => by
    have := pre_le hI hB a i hi
    show pre s a i - _ ≤ 115200
    omega)
  unfold lacks
  have : 115200 * nA ≤ 115200 * 6 := Nat.mul_le_mul (Nat.le_refl _) h6
  omega
theorem X4_lack_ev (hD : LD F) (hR : RB I 1 s nA nH nR) (hI : Iv s nA nH nR) (hBd : Bd Rb Mb Nb s nA nH) (hRb : Rb < 100000000) {g : Nat} (hg : gp s 1 = nI g) (hg2 : g < 100000000) : pm_ev tb xl xs mX4_lack 0 [some (.ref 0), none, none] [] (pm_G F I) = some (some (.int (nI (lacks s nA nR - g))), pm_G F I) := by
  have hB := ldB hD
  have h6 := hI.1.1.2
  have h40 := hI.1.2.2.1.2
  have hnA := hI.1.1.1
  have qA : I 1 3 = nI nA := (rbg3 hR).trans hnA
  have qG : I 1 7 = nI g := (rbg7 hR).trans hg
  have h1 := lp_ev0 nA (fun i (x : Int32) => pm_ev tb xl xs mX4_lack 4 [some (.ref 0), some (.int x), some (.int (nI i))] [] (pm_G F I)) (fun i x => x + if 0 < sum (fun r => if rp s r 1 = nI i ∧ isDue s r then price s r else 0) nR - ap s i 2 then sum (fun r => if rp s r 1 = nI i ∧ isDue s r then price s r else 0) nR - ap s i 2 else 0) (fun i x hi => by
    have ha : i < 6 := by omega
    show pm_ev tb xl xs mX4_lack 4 [some (.ref 0), some (.int x), some (.int (nI i))] [] (pm_G F I) = _
    rw [eX4_lack_4]
    simp only [eX4_lack_0, eX4_lack_1, eX4_lack_2, eX4_lack_3, eX4_lack_5, eX4_lack_6, eX4_lack_9, eX4_lack_12, eX4_lack_15, eX4_lack_16, eX4_lack_17, eX4_lack_18, eX4_lack_21, eX4_lack_22, eX4_lack_25, eX4_lack_26, eX4_lack_29, eX4_lack_32, eX4_lack_33, eX4_lack_34, eX4_lack_37, eX4_lack_38, eX4_lack_41, eX4_lack_42, eX4_lack_43, eX4_lack_46, eX4_lack_49, eX4_lack_50, eX4_lack_51, eX4_lack_52, eX4_lack_55, eX4_lack_58, eX4_lack_59, eX4_lack_62, one0, and_false, false_and, gk, gr, gi, gs, rv_some, ret_i, ret_n, Option.bind_some, List.cons_append, List.nil_append, z0, z1, zi, zj, i10, i01, true_or, or_true, eq_self, not_false_eq_true, not_true_eq_false, if_true, if_false, ite_not, Decidable.not_not, and_true, true_and, or_false, false_or, Nat.reduceLeDiff, Nat.reduceMod, Nat.reduceEqDiff, ld0 hD, ld1 hD, ld2 hD, ld3 hD, ld4 hD, ld5 hD, ld6 hD, lb0 (ldB hD), lb1 (ldB hD), lb2 (ldB hD), lb3 (ldB hD), lb4 (ldB hD), lb5 (ldB hD), lb6 (ldB hD), lba hB ha, lba2 hB ha, ix6 ha, cl6 ha, qA, lt_t hi (show nA < 2147483648 by omega), X1_payablePrices_ev hB hR hI, rba2 hR hi, nI_1]) 0
  have h2 : lp (fun i x => x + if 0 < sum (fun r => if rp s r 1 = nI i ∧ isDue s r then price s r else 0) nR - ap s i 2 then sum (fun r => if rp s r 1 = nI i ∧ isDue s r then price s r else 0) nR - ap s i 2 else 0) 0 nA 0 = nI (lacks s nA nR) := by
    refine lp_inv (fun i (x : Int32) => x = nI (lacks s i nR)) _ nA (fun i x hi h => ?_) nA 0 0 (by omega) rfl
    obtain ⟨q, hq, hq2, hq3⟩ := vin (hBd.2.1 i hi).2.2 (by omega)
    have hp := pre_le hI hBd i nR (Nat.le_refl _)
    show x + (if 0 < sum (fun r => if rp s r 1 = nI i ∧ isDue s r then price s r else 0) nR - ap s i 2 then sum (fun r => if rp s r 1 = nI i ∧ isDue s r then price s r else 0) nR - ap s i 2 else 0) = nI (lacks s i nR + (pre s i nR - tn (ap s i 2)))
    rw [sum_pre hI hBd, h, hq2, dmax (by omega) (by omega), nI_add, show tn (nI q) = q from tn_n (by omega)]
  rw [h2] at h1
  have hl := lacks_le hI hBd (Nat.le_refl nR)
  simp only [eX4_lack_0, eX4_lack_1, eX4_lack_2, eX4_lack_3, eX4_lack_5, eX4_lack_6, eX4_lack_9, eX4_lack_12, eX4_lack_15, eX4_lack_16, eX4_lack_17, eX4_lack_18, eX4_lack_21, eX4_lack_22, eX4_lack_25, eX4_lack_26, eX4_lack_29, eX4_lack_32, eX4_lack_33, eX4_lack_34, eX4_lack_37, eX4_lack_38, eX4_lack_41, eX4_lack_42, eX4_lack_43, eX4_lack_46, eX4_lack_49, eX4_lack_50, eX4_lack_51, eX4_lack_52, eX4_lack_55, eX4_lack_58, eX4_lack_59, eX4_lack_62, one0, and_false, false_and, gk, gr, gi, gs, rv_some, ret_i, ret_n, Option.bind_some, List.cons_append, List.nil_append, z0, z1, zi, zj, i10, i01, true_or, or_true, eq_self, not_false_eq_true, not_true_eq_false, if_true, if_false, ite_not, Decidable.not_not, and_true, true_and, or_false, false_or, Nat.reduceLeDiff, Nat.reduceMod, Nat.reduceEqDiff]
  refine Eq.trans h1 ?_
  show pm_ev tb xl xs mX4_lack 4 [some (.ref 0), some (.int (nI (lacks s nA nR))), some (.int (nI nA))] [] (pm_G F I) = _
  rw [eX4_lack_4]
  simp only [eX4_lack_0, eX4_lack_1, eX4_lack_2, eX4_lack_3, eX4_lack_5, eX4_lack_6, eX4_lack_9, eX4_lack_12, eX4_lack_15, eX4_lack_16, eX4_lack_17, eX4_lack_18, eX4_lack_21, eX4_lack_22, eX4_lack_25, eX4_lack_26, eX4_lack_29, eX4_lack_32, eX4_lack_33, eX4_lack_34, eX4_lack_37, eX4_lack_38, eX4_lack_41, eX4_lack_42, eX4_lack_43, eX4_lack_46, eX4_lack_49, eX4_lack_50, eX4_lack_51, eX4_lack_52, eX4_lack_55, eX4_lack_58, eX4_lack_59, eX4_lack_62, one0, and_false, false_and, gk, gr, gi, gs, rv_some, ret_i, ret_n, Option.bind_some, List.cons_append, List.nil_append, z0, z1, zi, zj, i10, i01, true_or, or_true, eq_self, not_false_eq_true, not_true_eq_false, if_true, if_false, ite_not, Decidable.not_not, and_true, true_and, or_false, false_or, Nat.reduceLeDiff, Nat.reduceMod, Nat.reduceEqDiff, ld0 hD, ld1 hD, ld2 hD, ld3 hD, ld4 hD, ld5 hD, ld6 hD, lb0 (ldB hD), lb1 (ldB hD), lb2 (ldB hD), lb3 (ldB hD), lb4 (ldB hD), lb5 (ldB hD), lb6 (ldB hD), qA, qG, lt_f (Nat.le_refl nA) (show nA < 2147483648 by omega), dmax (show lacks s nA nR < 1000000000 by omega) (show g < 1000000000 by omega)]
theorem r7 : row (row I 587 p) (583 + 1) s (583 + 4) = p := by
  rw [row_n (by omega)]
  exact row_s
theorem rw7 : row (row (row I 587 p) (583 + 1) s) (583 + 4) f = row (row I 587 f) (583 + 1) s := by
  rw [row_swap (by omega)]
  exact congrArg (fun x => row x (583 + 1) s) row_row
theorem X5_lack_ev (hM : LM F 583) (hI : Iv s nA nH nR) (hBd : Bd Rb Mb Nb s nA nH) {g : Nat} (hg : gp s 1 = nI g) (hg2 : g < 100000000) : ∃ p', pm_ev tb xl xs mX5_lack 0 [some (.ref 583), none, none, none] [] (pm_G F (row I 584 s)) = some (some (.int (nI (lacks s nA nR - g))), pm_G F (row (row I 587 p') 584 s)) := by
  have h6 := hI.1.1.2
  have h40 := hI.1.2.2.1.2
  have hnA := hI.1.1.1
  have hnR := hI.1.2.2.1.1
  have second : ∀ n i (p : Nat → Int32) (l3 : Option Value), i + n = nR → (∀ a, a < nA → p a = nI (tn (ap s a 2) - pre s a i)) → ∃ p', pm_ev tb xl xs mX5_lack 38 [some (.ref 583), some (.int (nI (lacks s nA i))), some (.int (nI i)), l3] [] (pm_G F (row (row I 587 p) 584 s)) = some (some (.int (nI (lacks s nA nR - g))), pm_G F (row (row I 587 p') 584 s)) := by
    intro n
    induction n with
    | zero =>
      intro i p l3 hi hp
      obtain rfl : i = nR := by omega
      refine ⟨p, ?_⟩
      have hl := lacks_le hI hBd (Nat.le_refl i)
      rw [eX5_lack_38]
      have e := dmax2 (show lacks s nA i < 1000000000 by omega) (show g < 1000000000 by omega)
      by_cases hc : nI g < nI (lacks s nA i)
      · rw [if_pos hc] at e
        simp only [eX5_lack_0, eX5_lack_1, eX5_lack_3, eX5_lack_4, eX5_lack_7, eX5_lack_8, eX5_lack_9, eX5_lack_12, eX5_lack_13, eX5_lack_16, eX5_lack_17, eX5_lack_18, eX5_lack_21, eX5_lack_22, eX5_lack_23, eX5_lack_26, eX5_lack_27, eX5_lack_28, eX5_lack_31, eX5_lack_34, eX5_lack_35, eX5_lack_36, eX5_lack_37, eX5_lack_39, eX5_lack_40, eX5_lack_43, eX5_lack_45, eX5_lack_46, eX5_lack_49, eX5_lack_50, eX5_lack_51, eX5_lack_54, eX5_lack_57, eX5_lack_58, eX5_lack_61, eX5_lack_62, eX5_lack_63, eX5_lack_64, eX5_lack_67, eX5_lack_68, eX5_lack_69, eX5_lack_70, eX5_lack_73, eX5_lack_76, eX5_lack_77, eX5_lack_78, eX5_lack_81, eX5_lack_82, eX5_lack_83, eX5_lack_84, eX5_lack_87, eX5_lack_88, eX5_lack_89, eX5_lack_90, eX5_lack_91, eX5_lack_92, eX5_lack_93, eX5_lack_94, eX5_lack_95, eX5_lack_98, eX5_lack_99, eX5_lack_100, eX5_lack_101, eX5_lack_102, eX5_lack_105, eX5_lack_108, eX5_lack_109, eX5_lack_110, eX5_lack_113, eX5_lack_114, eX5_lack_115, eX5_lack_118, eX5_lack_119, eX5_lack_120, eX5_lack_123, eX5_lack_124, eX5_lack_125, eX5_lack_126, eX5_lack_129, eX5_lack_130, one0, gk, gr, gj, gw, rv_some, ret_i, ret_n, Option.bind_some, List.cons_append, List.nil_append, z0, z1, zi, zj, i10, i01, row_s, row_row, true_or, or_true, eq_self, not_false_eq_true, not_true_eq_false, if_true, if_false, ite_not, Decidable.not_not, and_true, true_and, or_false, false_or, lm0 hM, lm1 hM, lm5 hM, ixG0, ixG1, ixG2, ixG3, ixG4, ixG5, ixG6, ixG7, ixG8, clG0, clG1, clG2, clG3, clG4, clG5, clG6, clG7, clG8, rdG0, rdG1, rdG2, rdG3, rdG4, rdG5, rdG6, rdG7, rdG8, wrG0, wrG1, wrG2, wrG3, wrG4, wrG5, wrG6, wrG7, wrG8, hnR, hg, lt_f (Nat.le_refl i) (show i < 2147483648 by omega), hc, e]
      · rw [if_neg hc] at e
        simp only [eX5_lack_0, eX5_lack_1, eX5_lack_3, eX5_lack_4, eX5_lack_7, eX5_lack_8, eX5_lack_9, eX5_lack_12, eX5_lack_13, eX5_lack_16, eX5_lack_17, eX5_lack_18, eX5_lack_21, eX5_lack_22, eX5_lack_23, eX5_lack_26, eX5_lack_27, eX5_lack_28, eX5_lack_31, eX5_lack_34, eX5_lack_35, eX5_lack_36, eX5_lack_37, eX5_lack_39, eX5_lack_40, eX5_lack_43, eX5_lack_45, eX5_lack_46, eX5_lack_49, eX5_lack_50, eX5_lack_51, eX5_lack_54, eX5_lack_57, eX5_lack_58, eX5_lack_61, eX5_lack_62, eX5_lack_63, eX5_lack_64, eX5_lack_67, eX5_lack_68, eX5_lack_69, eX5_lack_70, eX5_lack_73, eX5_lack_76, eX5_lack_77, eX5_lack_78, eX5_lack_81, eX5_lack_82, eX5_lack_83, eX5_lack_84, eX5_lack_87, eX5_lack_88, eX5_lack_89, eX5_lack_90, eX5_lack_91, eX5_lack_92, eX5_lack_93, eX5_lack_94, eX5_lack_95, eX5_lack_98, eX5_lack_99, eX5_lack_100, eX5_lack_101, eX5_lack_102, eX5_lack_105, eX5_lack_108, eX5_lack_109, eX5_lack_110, eX5_lack_113, eX5_lack_114, eX5_lack_115, eX5_lack_118, eX5_lack_119, eX5_lack_120, eX5_lack_123, eX5_lack_124, eX5_lack_125, eX5_lack_126, eX5_lack_129, eX5_lack_130, one0, gk, gr, gj, gw, rv_some, ret_i, ret_n, Option.bind_some, List.cons_append, List.nil_append, z0, z1, zi, zj, i10, i01, row_s, row_row, true_or, or_true, eq_self, not_false_eq_true, not_true_eq_false, if_true, if_false, ite_not, Decidable.not_not, and_true, true_and, or_false, false_or, lm0 hM, lm1 hM, lm5 hM, ixG0, ixG1, ixG2, ixG3, ixG4, ixG5, ixG6, ixG7, ixG8, clG0, clG1, clG2, clG3, clG4, clG5, clG6, clG7, clG8, rdG0, rdG1, rdG2, rdG3, rdG4, rdG5, rdG6, rdG7, rdG8, wrG0, wrG1, wrG2, wrG3, wrG4, wrG5, wrG6, wrG7, wrG8, hnR, hg, lt_f (Nat.le_refl i) (show i < 2147483648 by omega), hc, e]
    | succ n ih =>
      intro i p l3 hi hp
      have hiR : i < nR := by omega
      have hr : i < 40 := by omega
      rw [eX5_lack_38]
      by_cases hd : isDue s i
      · obtain ⟨a, haA, hra, -⟩ := vin (hI.1.2.2.2 i hiR).2 (by omega)
        have ha : a < 6 := by omega
        obtain ⟨c, hc1, -, hc2⟩ := price_n hI hBd hiR (due4 (hI.2 i hiR) hd)
        obtain ⟨q, hq, hq2, hq3⟩ := vin (hBd.2.1 a haA).2.2 (by omega)
        have e6 : vp_in (nI a) 6 := ix_n ha (by omega)
        have e7 : (nI a).toNatClampNeg = a := cl_n (by omega)
        have ew : ∃ w, (if gq p a < price s i then gq p a else price s i) = nI w ∧ w ≤ c ∧ w ≤ q - pre s a i ∧ (w = c ∨ w = q - pre s a i) := by
          show ∃ w, (if p a < price s i then p a else price s i) = nI w ∧ _
          rw [hp a haA, hq3, hc1]
          by_cases z : q - pre s a i < c
          · rw [if_pos (nI_lt z (by omega))]; exact ⟨_, rfl, by omega, by omega, Or.inr rfl⟩
          · rw [if_neg (nI_nlt (by omega) (by omega))]; exact ⟨_, rfl, by omega, by omega, Or.inl rfl⟩
        obtain ⟨w, ew, w1, w2, w3⟩ := ew
        have pn : ∀ b, b < nA → pre s b (i + 1) = pre s b i + if b = a then c else 0 := by
          intro b hbA
          rw [pre_s, hra, hc1, tn_p hc2]
          by_cases e : b = a
          · rw [if_pos ⟨by rw [e], hd⟩, if_pos e]
          · rw [if_neg e]
            by_cases hb : nI a = nI b ∧ isDue s i
            · exact absurd ((nI_eq (by omega) (by omega)).mp hb.1).symm e
            · rw [if_neg hb]
        obtain ⟨p', e'⟩ := ih (i + 1) (upd p a (gq p a - nI w)) (some (.int (nI w))) (by omega) (fun b hb => by
          unfold upd
          rw [pn b hb]
          by_cases e : b = a
          · rw [if_pos e, if_pos e, e]
            show p a - nI w = _
            rw [hp a haA, hq3, pk_sub w2]
            exact congrArg nI (by omega)
          · rw [if_neg e, if_neg e]
            exact hp b hb)
        refine ⟨p', ?_⟩
        have el : nI (lacks s nA i) + (price s i - nI w) = nI (lacks s nA (i + 1)) := by
          rw [hc1, pk_sub w1, nI_add]
          refine congrArg nI (Eq.symm ?_)
          unfold lacks
          refine nsum_u nA haA (fun b hb hne => ?_) ?_
          · show pre s b (i + 1) - _ = pre s b i - _
            rw [pn b hb, if_neg hne]
            rfl
          · show pre s a (i + 1) - _ = pre s a i - _ + _
            rw [pn a haA, if_pos rfl, hq3]
            omega
        simp only [eX5_lack_0, eX5_lack_1, eX5_lack_3, eX5_lack_4, eX5_lack_7, eX5_lack_8, eX5_lack_9, eX5_lack_12, eX5_lack_13, eX5_lack_16, eX5_lack_17, eX5_lack_18, eX5_lack_21, eX5_lack_22, eX5_lack_23, eX5_lack_26, eX5_lack_27, eX5_lack_28, eX5_lack_31, eX5_lack_34, eX5_lack_35, eX5_lack_36, eX5_lack_37, eX5_lack_39, eX5_lack_40, eX5_lack_43, eX5_lack_45, eX5_lack_46, eX5_lack_49, eX5_lack_50, eX5_lack_51, eX5_lack_54, eX5_lack_57, eX5_lack_58, eX5_lack_61, eX5_lack_62, eX5_lack_63, eX5_lack_64, eX5_lack_67, eX5_lack_68, eX5_lack_69, eX5_lack_70, eX5_lack_73, eX5_lack_76, eX5_lack_77, eX5_lack_78, eX5_lack_81, eX5_lack_82, eX5_lack_83, eX5_lack_84, eX5_lack_87, eX5_lack_88, eX5_lack_89, eX5_lack_90, eX5_lack_91, eX5_lack_92, eX5_lack_93, eX5_lack_94, eX5_lack_95, eX5_lack_98, eX5_lack_99, eX5_lack_100, eX5_lack_101, eX5_lack_102, eX5_lack_105, eX5_lack_108, eX5_lack_109, eX5_lack_110, eX5_lack_113, eX5_lack_114, eX5_lack_115, eX5_lack_118, eX5_lack_119, eX5_lack_120, eX5_lack_123, eX5_lack_124, eX5_lack_125, eX5_lack_126, eX5_lack_129, eX5_lack_130, one0, gk, gr, gj, gw, rv_some, ret_i, ret_n, Option.bind_some, List.cons_append, List.nil_append, z0, z1, zi, zj, i10, i01, row_s, row_row, true_or, or_true, eq_self, not_false_eq_true, not_true_eq_false, if_true, if_false, ite_not, Decidable.not_not, and_true, true_and, or_false, false_or, lm0 hM, lm1 hM, lm5 hM, lm4 hM, lm8 hM, ixG0, ixG1, ixG2, ixG3, ixG4, ixG5, ixG6, ixG7, ixG8, clG0, clG1, clG2, clG3, clG4, clG5, clG6, clG7, clG8, rdG0, rdG1, rdG2, rdG3, rdG4, rdG5, rdG6, rdG7, rdG8, wrG0, wrG1, wrG2, wrG3, wrG4, wrG5, wrG6, wrG7, wrG8, X5_of_ev0 hM, X5_of_ev1 hM, X5_of_ev2 hM, X5_of_ev3 hM, X5_of_ev4 hM, X5_of_ev5 hM, X5_of_ev6 hM, X5_of_ev7 hM, X5_of_ev8 hM, X5_of_ev9 hM, X5_of_ev10 hM, X5_of_ev11 hM, hr, hnR, lt_t hiR (show nR < 2147483648 by omega), X5_isDue_ev hM hr, hd, hra, e6, e7, X5_price_ev hM hr ha hra, X5_lesser_ev, r7, rw7, ew, el, nI_1]
        exact e'
      · have pn : ∀ b, pre s b (i + 1) = pre s b i := by
          intro b
          rw [pre_s, if_neg (fun q => hd q.2)]
          rfl
        have el : lacks s nA (i + 1) = lacks s nA i := nsum_c nA (fun b _ => by rw [pn b])
        obtain ⟨p', e'⟩ := ih (i + 1) p l3 (by omega) (fun b hb => by rw [pn b]; exact hp b hb)
        rw [el] at e'
        refine ⟨p', ?_⟩
        simp only [eX5_lack_0, eX5_lack_1, eX5_lack_3, eX5_lack_4, eX5_lack_7, eX5_lack_8, eX5_lack_9, eX5_lack_12, eX5_lack_13, eX5_lack_16, eX5_lack_17, eX5_lack_18, eX5_lack_21, eX5_lack_22, eX5_lack_23, eX5_lack_26, eX5_lack_27, eX5_lack_28, eX5_lack_31, eX5_lack_34, eX5_lack_35, eX5_lack_36, eX5_lack_37, eX5_lack_39, eX5_lack_40, eX5_lack_43, eX5_lack_45, eX5_lack_46, eX5_lack_49, eX5_lack_50, eX5_lack_51, eX5_lack_54, eX5_lack_57, eX5_lack_58, eX5_lack_61, eX5_lack_62, eX5_lack_63, eX5_lack_64, eX5_lack_67, eX5_lack_68, eX5_lack_69, eX5_lack_70, eX5_lack_73, eX5_lack_76, eX5_lack_77, eX5_lack_78, eX5_lack_81, eX5_lack_82, eX5_lack_83, eX5_lack_84, eX5_lack_87, eX5_lack_88, eX5_lack_89, eX5_lack_90, eX5_lack_91, eX5_lack_92, eX5_lack_93, eX5_lack_94, eX5_lack_95, eX5_lack_98, eX5_lack_99, eX5_lack_100, eX5_lack_101, eX5_lack_102, eX5_lack_105, eX5_lack_108, eX5_lack_109, eX5_lack_110, eX5_lack_113, eX5_lack_114, eX5_lack_115, eX5_lack_118, eX5_lack_119, eX5_lack_120, eX5_lack_123, eX5_lack_124, eX5_lack_125, eX5_lack_126, eX5_lack_129, eX5_lack_130, one0, gk, gr, gj, gw, rv_some, ret_i, ret_n, Option.bind_some, List.cons_append, List.nil_append, z0, z1, zi, zj, i10, i01, row_s, row_row, true_or, or_true, eq_self, not_false_eq_true, not_true_eq_false, if_true, if_false, ite_not, Decidable.not_not, and_true, true_and, or_false, false_or, lm0 hM, lm1 hM, lm5 hM, ixG0, ixG1, ixG2, ixG3, ixG4, ixG5, ixG6, ixG7, ixG8, clG0, clG1, clG2, clG3, clG4, clG5, clG6, clG7, clG8, rdG0, rdG1, rdG2, rdG3, rdG4, rdG5, rdG6, rdG7, rdG8, wrG0, wrG1, wrG2, wrG3, wrG4, wrG5, wrG6, wrG7, wrG8, hnR, lt_t hiR (show nR < 2147483648 by omega), X5_isDue_ev hM hr, hd, nI_1]
        exact e'
  have h1 := lp_ev0 nA (fun i (p : Nat → Int32) => pm_ev tb xl xs mX5_lack 2 [some (.ref 583), some (.int (nI i)), none, none] [] (pm_G F (row (row I 587 p) 584 s))) (fun i p => upd p i (ap s i 2)) (fun i p hi => by
    have ha : i < 6 := by omega
    have e6 : vp_in (nI i) 6 := ix_n ha (by omega)
    have e7 : (nI i).toNatClampNeg = i := cl_n (by omega)
    show pm_ev tb xl xs mX5_lack 2 [some (.ref 583), some (.int (nI i)), none, none] [] (pm_G F (row (row I 587 p) 584 s)) = _
    rw [eX5_lack_2]
    simp only [eX5_lack_0, eX5_lack_1, eX5_lack_3, eX5_lack_4, eX5_lack_7, eX5_lack_8, eX5_lack_9, eX5_lack_12, eX5_lack_13, eX5_lack_16, eX5_lack_17, eX5_lack_18, eX5_lack_21, eX5_lack_22, eX5_lack_23, eX5_lack_26, eX5_lack_27, eX5_lack_28, eX5_lack_31, eX5_lack_34, eX5_lack_35, eX5_lack_36, eX5_lack_37, eX5_lack_39, eX5_lack_40, eX5_lack_43, eX5_lack_45, eX5_lack_46, eX5_lack_49, eX5_lack_50, eX5_lack_51, eX5_lack_54, eX5_lack_57, eX5_lack_58, eX5_lack_61, eX5_lack_62, eX5_lack_63, eX5_lack_64, eX5_lack_67, eX5_lack_68, eX5_lack_69, eX5_lack_70, eX5_lack_73, eX5_lack_76, eX5_lack_77, eX5_lack_78, eX5_lack_81, eX5_lack_82, eX5_lack_83, eX5_lack_84, eX5_lack_87, eX5_lack_88, eX5_lack_89, eX5_lack_90, eX5_lack_91, eX5_lack_92, eX5_lack_93, eX5_lack_94, eX5_lack_95, eX5_lack_98, eX5_lack_99, eX5_lack_100, eX5_lack_101, eX5_lack_102, eX5_lack_105, eX5_lack_108, eX5_lack_109, eX5_lack_110, eX5_lack_113, eX5_lack_114, eX5_lack_115, eX5_lack_118, eX5_lack_119, eX5_lack_120, eX5_lack_123, eX5_lack_124, eX5_lack_125, eX5_lack_126, eX5_lack_129, eX5_lack_130, one0, gk, gr, gj, gw, rv_some, ret_i, ret_n, Option.bind_some, List.cons_append, List.nil_append, z0, z1, zi, zj, i10, i01, row_s, row_row, true_or, or_true, eq_self, not_false_eq_true, not_true_eq_false, if_true, if_false, ite_not, Decidable.not_not, and_true, true_and, or_false, false_or, lm0 hM, lm1 hM, lm5 hM, lm4 hM, lm8 hM, ixG0, ixG1, ixG2, ixG3, ixG4, ixG5, ixG6, ixG7, ixG8, clG0, clG1, clG2, clG3, clG4, clG5, clG6, clG7, clG8, rdG0, rdG1, rdG2, rdG3, rdG4, rdG5, rdG6, rdG7, rdG8, wrG0, wrG1, wrG2, wrG3, wrG4, wrG5, wrG6, wrG7, wrG8, X5_atAsset_ev0, X5_atAsset_ev1, X5_atAsset_ev2, ixA0 ha, clA0 ha, rdA0, wrA0, ixA1 ha, clA1 ha, rdA1, wrA1, ixA2 ha, clA2 ha, rdA2, wrA2, hnA, lt_t hi (show nA < 2147483648 by omega), e6, e7, r7, rw7, nI_1]) (I 587)
  have h2 : ∀ a, a < nA → lp (fun i (p : Nat → Int32) => upd p i (ap s i 2)) 0 nA (I 587) a = nI (tn (ap s a 2) - pre s a 0) := by
    have := lp_inv (fun i (p : Nat → Int32) => ∀ a, a < i → p a = ap s a 2) (fun i (p : Nat → Int32) => upd p i (ap s i 2)) nA (fun i p hi h a ha => by
      show upd p i (ap s i 2) a = ap s a 2
      unfold upd
      by_cases e : a = i
      · rw [if_pos e, e]
      · rw [if_neg e]; exact h a (by omega)) nA 0 (I 587) (by omega) (fun a ha => absurd ha (by omega))
    intro a ha
    obtain ⟨q, hq, hq2, hq3⟩ := vin (hBd.2.1 a ha).2.2 (by omega)
    rw [this a ha, hq3]
    exact hq2
  generalize lp (fun i (p : Nat → Int32) => upd p i (ap s i 2)) 0 nA (I 587) = p at h1 h2
  have l0 : lacks s nA 0 = 0 := by
    unfold lacks
    have := nsum_le (f := fun a => pre s a 0 - tn (ap s a 2)) (m := 0) nA (fun a _ => by show 0 - _ ≤ 0; omega)
    omega
  obtain ⟨p', e'⟩ := second nR 0 p none (by omega) h2
  rw [l0] at e'
  refine ⟨p', ?_⟩
  have e0 : row I 587 (I 587) = I := row_self
  rw [e0] at h1
  simp only [eX5_lack_0, eX5_lack_1, eX5_lack_3, eX5_lack_4, eX5_lack_7, eX5_lack_8, eX5_lack_9, eX5_lack_12, eX5_lack_13, eX5_lack_16, eX5_lack_17, eX5_lack_18, eX5_lack_21, eX5_lack_22, eX5_lack_23, eX5_lack_26, eX5_lack_27, eX5_lack_28, eX5_lack_31, eX5_lack_34, eX5_lack_35, eX5_lack_36, eX5_lack_37, eX5_lack_39, eX5_lack_40, eX5_lack_43, eX5_lack_45, eX5_lack_46, eX5_lack_49, eX5_lack_50, eX5_lack_51, eX5_lack_54, eX5_lack_57, eX5_lack_58, eX5_lack_61, eX5_lack_62, eX5_lack_63, eX5_lack_64, eX5_lack_67, eX5_lack_68, eX5_lack_69, eX5_lack_70, eX5_lack_73, eX5_lack_76, eX5_lack_77, eX5_lack_78, eX5_lack_81, eX5_lack_82, eX5_lack_83, eX5_lack_84, eX5_lack_87, eX5_lack_88, eX5_lack_89, eX5_lack_90, eX5_lack_91, eX5_lack_92, eX5_lack_93, eX5_lack_94, eX5_lack_95, eX5_lack_98, eX5_lack_99, eX5_lack_100, eX5_lack_101, eX5_lack_102, eX5_lack_105, eX5_lack_108, eX5_lack_109, eX5_lack_110, eX5_lack_113, eX5_lack_114, eX5_lack_115, eX5_lack_118, eX5_lack_119, eX5_lack_120, eX5_lack_123, eX5_lack_124, eX5_lack_125, eX5_lack_126, eX5_lack_129, eX5_lack_130, one0, gk, gr, gj, gw, rv_some, ret_i, ret_n, Option.bind_some, List.cons_append, List.nil_append, z0, z1, zi, zj, i10, i01, row_s, row_row, true_or, or_true, eq_self, not_false_eq_true, not_true_eq_false, if_true, if_false, ite_not, Decidable.not_not, and_true, true_and, or_false, false_or]
  refine Eq.trans h1 ?_
  show pm_ev tb xl xs mX5_lack 2 [some (.ref 583), some (.int (nI nA)), none, none] [] (pm_G F (row (row I 587 p) 584 s)) = _
  rw [eX5_lack_2]
  simp only [eX5_lack_0, eX5_lack_1, eX5_lack_3, eX5_lack_4, eX5_lack_7, eX5_lack_8, eX5_lack_9, eX5_lack_12, eX5_lack_13, eX5_lack_16, eX5_lack_17, eX5_lack_18, eX5_lack_21, eX5_lack_22, eX5_lack_23, eX5_lack_26, eX5_lack_27, eX5_lack_28, eX5_lack_31, eX5_lack_34, eX5_lack_35, eX5_lack_36, eX5_lack_37, eX5_lack_39, eX5_lack_40, eX5_lack_43, eX5_lack_45, eX5_lack_46, eX5_lack_49, eX5_lack_50, eX5_lack_51, eX5_lack_54, eX5_lack_57, eX5_lack_58, eX5_lack_61, eX5_lack_62, eX5_lack_63, eX5_lack_64, eX5_lack_67, eX5_lack_68, eX5_lack_69, eX5_lack_70, eX5_lack_73, eX5_lack_76, eX5_lack_77, eX5_lack_78, eX5_lack_81, eX5_lack_82, eX5_lack_83, eX5_lack_84, eX5_lack_87, eX5_lack_88, eX5_lack_89, eX5_lack_90, eX5_lack_91, eX5_lack_92, eX5_lack_93, eX5_lack_94, eX5_lack_95, eX5_lack_98, eX5_lack_99, eX5_lack_100, eX5_lack_101, eX5_lack_102, eX5_lack_105, eX5_lack_108, eX5_lack_109, eX5_lack_110, eX5_lack_113, eX5_lack_114, eX5_lack_115, eX5_lack_118, eX5_lack_119, eX5_lack_120, eX5_lack_123, eX5_lack_124, eX5_lack_125, eX5_lack_126, eX5_lack_129, eX5_lack_130, one0, gk, gr, gj, gw, rv_some, ret_i, ret_n, Option.bind_some, List.cons_append, List.nil_append, z0, z1, zi, zj, i10, i01, row_s, row_row, true_or, or_true, eq_self, not_false_eq_true, not_true_eq_false, if_true, if_false, ite_not, Decidable.not_not, and_true, true_and, or_false, false_or, lm0 hM, lm1 hM, lm5 hM, ixG0, ixG1, ixG2, ixG3, ixG4, ixG5, ixG6, ixG7, ixG8, clG0, clG1, clG2, clG3, clG4, clG5, clG6, clG7, clG8, rdG0, rdG1, rdG2, rdG3, rdG4, rdG5, rdG6, rdG7, rdG8, wrG0, wrG1, wrG2, wrG3, wrG4, wrG5, wrG6, wrG7, wrG8, hnA, lt_f (Nat.le_refl nA) (show nA < 2147483648 by omega)]
  exact e'
end LACK
