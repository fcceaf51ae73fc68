/-! lack -/
def nsum (f : Nat → Nat) : Nat → Nat
  | 0 => 0
  | n + 1 => nsum f n + f n
/-- what the due ones among the first cost of an asset -/
def pre (s : St) (a : Nat) : Nat → Nat
  | 0 => 0
  | i + 1 => pre s a i + if rp s i 1 = nI a ∧ isDue s i then tn (price s i) else 0
section LACK
variable {xl : Nat} {xs : Nat → Int32} {F : pm_F} {I : Nat → Nat → Int32} {N : Nat} {s : St} {nA nH nR Rb Mb Nb : Nat} {p f : Nat → Int32}
theorem nsum_c {f g : Nat → Nat} : ∀ n, (∀ i, i < n → f i = g i) → nsum f n = nsum g n
  | 0, _ => rfl
  | n + 1, h => by
    show nsum f n + f n = nsum g n + g n
    rw [nsum_c n (fun i hi => h i (by omega)), h n (by omega)]
theorem nsum_u {f g : Nat → Nat} {a d : Nat} : ∀ n, a < n → (∀ i, i < n → i ≠ a → f i = g i) → f a = g a + d → nsum f n = nsum g n + d
  | 0, h, _, _ => absurd h (by omega)
  | n + 1, h, h1, h2 => by
    show nsum f n + f n = nsum g n + g n + d
    by_cases e : n = a
    · subst e
      rw [nsum_c n (fun i hi => h1 i (by omega) (by omega)), h2]
      omega
    · rw [nsum_u n (by omega) (fun i hi => h1 i (by omega)) h2, h1 n (by omega) e]
      omega
theorem nsum_le {f : Nat → Nat} {m : Nat} : ∀ n, (∀ i, i < n → f i ≤ m) → nsum f n ≤ m * n
  | 0, _ => Nat.zero_le _
  | n + 1, h => by
    show nsum f n + f n ≤ m * (n + 1)
    have := nsum_le n (fun i hi => h i (by omega))
    have := h n (by omega)
    rw [Nat.mul_add]
    omega
theorem due4 {r : Nat} (h : Rw s r) (hd : isDue s r) : ¬ rp s r 4 = 0 := by
  obtain ⟨-, -, -, -, e⟩ := h
  rcases hd with hd | hd
  · exact e (Or.inl hd)
  · exact e (Or.inr (Or.inl hd))
theorem pre_s (s : St) (a i : Nat) : pre s a (i + 1) = pre s a i + if rp s i 1 = nI a ∧ isDue s i then tn (price s i) else 0 := rfl
theorem tn_p {c : Nat} (h : c ≤ 2880) : tn (nI c) = c := tn_n (by omega)
theorem pre_le (hI : Iv s nA nH nR) (hB : Bd Rb Mb Nb s nA nH) (a i : Nat) (hi : i ≤ nR) : pre s a i ≤ 2880 * i := by
  induction i with
  | zero => exact Nat.zero_le _
  | succ i ih =>
    have ih := ih (by omega)
    rw [pre_s]
    split
    · rename_i hc
      obtain ⟨c, hc1, -, hc2⟩ := price_n hI hB (show i < nR by omega) (due4 (hI.2 i (by omega)) hc.2)
      rw [hc1, tn_p hc2]
      omega
    · omega
theorem sum_pre (hI : Iv s nA nH nR) (hB : Bd Rb Mb Nb s nA nH) (a : Nat) : sum (fun r => if rp s r 1 = nI a ∧ isDue s r then price s r else 0) nR = nI (pre s a nR) := by
  refine lp_inv (fun i (x : Int32) => x = nI (pre s a i)) _ nR (fun i x hi h => ?_) nR 0 0 (by omega) rfl
  show x + (if rp s i 1 = nI a ∧ isDue s i then price s i else 0) = nI (pre s a (i + 1))
  rw [pre_s]
  rw [h]
  split
  · rename_i hc
    obtain ⟨c, hc1, -, hc2⟩ := price_n hI hB hi (due4 (hI.2 i hi) hc.2)
    rw [hc1, tn_p hc2, nI_add]
  · exact Int32.add_zero _
theorem dmax {a b : Nat} (ha : a < 1000000000) (hb : b < 1000000000) : (if 0 < nI a - nI b then nI a - nI b else 0) = nI (a - b) := by
  rcases Nat.lt_or_ge a b with h | h
  · have h1 := pk_sneg (by omega) h
    have h2 : ¬ 0 < nI a - nI b := fun q => by
      rw [Int32.lt_iff_toInt_lt] at h1 q
      omega
    rw [if_neg h2, show a - b = 0 by omega]
    rfl
  · rw [pk_sub h]
    split
    · rfl
    · rename_i z
      rcases Nat.eq_zero_or_pos (a - b) with q | q
      · rw [q]; rfl
      · exact absurd (nI_lt (a := 0) q (by omega)) z
theorem dmax2 {a b : Nat} (ha : a < 1000000000) (hb : b < 1000000000) : (if nI b < nI a then nI a - nI b else 0) = nI (a - b) := by
  rcases Nat.lt_or_ge b a with h | h
  · rw [if_pos (nI_lt h (by omega)), pk_sub (by omega)]
  · rw [if_neg (nI_nlt h (by omega)), show a - b = 0 by omega]
    rfl
/-- what the assets lack over their pools -/
def lacks (s : St) (nA i : Nat) : Nat := nsum (fun a => pre s a i - tn (ap s a 2)) nA
theorem lacks_le (hI : Iv s nA nH nR) (hB : Bd Rb Mb Nb s nA nH) {i : Nat} (hi : i ≤ nR) : lacks s nA i ≤ 1000000 := by
  have h6 := hI.1.1.2
  have h40 := hI.1.2.2.1.2
  have := nsum_le (f := fun a => pre s a i - tn (ap s a 2)) (m := 115200) nA (fun a ha => by
    have := pre_le hI hB a i hi
    show pre s a i - _ ≤ 115200
    omega)
  unfold lacks
  have : 115200 * nA ≤ 115200 * 6 := Nat.mul_le_mul (Nat.le_refl _) h6
  omega
theorem X4_lack_ev (hD : LD F) (hR : RB I 1 s nA nH nR) (hI : Iv s nA nH nR) (hBd : Bd Rb Mb Nb s nA nH) (hRb : Rb < 100000000) {g : Nat} (hg : gp s 1 = nI g) (hg2 : g < 100000000) : pm_ev tb xl xs mX4_lack 0 [some (.ref 0), none, none] [] (pm_G F I) = some (some (.int (nI (lacks s nA nR - g))), pm_G F I) := by
  have hB := ldB hD
  have h6 := hI.1.1.2
  have h40 := hI.1.2.2.1.2
  have hnA := hI.1.1.1
  have qA : I 1 3 = nI nA := (rbg3 hR).trans hnA
  have qG : I 1 7 = nI g := (rbg7 hR).trans hg
  have h1 := lp_ev0 nA (fun i (x : Int32) => pm_ev tb xl xs mX4_lack 4 [some (.ref 0), some (.int x), some (.int (nI i))] [] (pm_G F I)) (fun i x => x + if 0 < sum (fun r => if rp s r 1 = nI i ∧ isDue s r then price s r else 0) nR - ap s i 2 then sum (fun r => if rp s r 1 = nI i ∧ isDue s r then price s r else 0) nR - ap s i 2 else 0) (fun i x hi => by
    have ha : i < 6 := by omega
    show pm_ev tb xl xs mX4_lack 4 [some (.ref 0), some (.int x), some (.int (nI i))] [] (pm_G F I) = _
    rw [eX4_lack_4]
    simp only [eX4_lack_0, eX4_lack_1, eX4_lack_2, eX4_lack_3, eX4_lack_5, eX4_lack_6, eX4_lack_9, eX4_lack_12, eX4_lack_15, eX4_lack_16, eX4_lack_17, eX4_lack_18, eX4_lack_21, eX4_lack_22, eX4_lack_25, eX4_lack_26, eX4_lack_29, eX4_lack_32, eX4_lack_33, eX4_lack_34, eX4_lack_37, eX4_lack_38, eX4_lack_41, eX4_lack_42, eX4_lack_43, eX4_lack_46, eX4_lack_49, eX4_lack_50, eX4_lack_51, eX4_lack_52, eX4_lack_55, eX4_lack_58, eX4_lack_59, eX4_lack_62, one0, and_false, false_and, gk, gr, gi, gs, rv_some, ret_i, ret_n, Option.bind_some, List.cons_append, List.nil_append, z0, z1, zi, zj, i10, i01, true_or, or_true, eq_self, not_false_eq_true, not_true_eq_false, if_true, if_false, ite_not, Decidable.not_not, and_true, true_and, or_false, false_or, Nat.reduceLeDiff, Nat.reduceMod, Nat.reduceEqDiff, ld0 hD, ld1 hD, ld2 hD, ld3 hD, ld4 hD, ld5 hD, ld6 hD, lb0 (ldB hD), lb1 (ldB hD), lb2 (ldB hD), lb3 (ldB hD), lb4 (ldB hD), lb5 (ldB hD), lb6 (ldB hD), lba hB ha, lba2 hB ha, ix6 ha, cl6 ha, qA, lt_t hi (show nA < 2147483648 by omega), X1_payablePrices_ev hB hR hI, rba2 hR hi, nI_1]) 0
  have h2 : lp (fun i x => x + if 0 < sum (fun r => if rp s r 1 = nI i ∧ isDue s r then price s r else 0) nR - ap s i 2 then sum (fun r => if rp s r 1 = nI i ∧ isDue s r then price s r else 0) nR - ap s i 2 else 0) 0 nA 0 = nI (lacks s nA nR) := by
    refine lp_inv (fun i (x : Int32) => x = nI (lacks s i nR)) _ nA (fun i x hi h => ?_) nA 0 0 (by omega) rfl
    obtain ⟨q, hq, hq2, hq3⟩ := vin (hBd.2.1 i hi).2.2 (by omega)
    have hp := pre_le hI hBd i nR (Nat.le_refl _)
    show x + (if 0 < sum (fun r => if rp s r 1 = nI i ∧ isDue s r then price s r else 0) nR - ap s i 2 then sum (fun r => if rp s r 1 = nI i ∧ isDue s r then price s r else 0) nR - ap s i 2 else 0) = nI (lacks s i nR + (pre s i nR - tn (ap s i 2)))
    rw [sum_pre hI hBd, h, hq2, dmax (by omega) (by omega), nI_add, show tn (nI q) = q from tn_n (by omega)]
  rw [h2] at h1
  have hl := lacks_le hI hBd (Nat.le_refl nR)
  simp only [eX4_lack_0, eX4_lack_1, eX4_lack_2, eX4_lack_3, eX4_lack_5, eX4_lack_6, eX4_lack_9, eX4_lack_12, eX4_lack_15, eX4_lack_16, eX4_lack_17, eX4_lack_18, eX4_lack_21, eX4_lack_22, eX4_lack_25, eX4_lack_26, eX4_lack_29, eX4_lack_32, eX4_lack_33, eX4_lack_34, eX4_lack_37, eX4_lack_38, eX4_lack_41, eX4_lack_42, eX4_lack_43, eX4_lack_46, eX4_lack_49, eX4_lack_50, eX4_lack_51, eX4_lack_52, eX4_lack_55, eX4_lack_58, eX4_lack_59, eX4_lack_62, one0, and_false, false_and, gk, gr, gi, gs, rv_some, ret_i, ret_n, Option.bind_some, List.cons_append, List.nil_append, z0, z1, zi, zj, i10, i01, true_or, or_true, eq_self, not_false_eq_true, not_true_eq_false, if_true, if_false, ite_not, Decidable.not_not, and_true, true_and, or_false, false_or, Nat.reduceLeDiff, Nat.reduceMod, Nat.reduceEqDiff]
  refine Eq.trans h1 ?_
  show pm_ev tb xl xs mX4_lack 4 [some (.ref 0), some (.int (nI (lacks s nA nR))), some (.int (nI nA))] [] (pm_G F I) = _
  rw [eX4_lack_4]
  simp only [eX4_lack_0, eX4_lack_1, eX4_lack_2, eX4_lack_3, eX4_lack_5, eX4_lack_6, eX4_lack_9, eX4_lack_12, eX4_lack_15, eX4_lack_16, eX4_lack_17, eX4_lack_18, eX4_lack_21, eX4_lack_22, eX4_lack_25, eX4_lack_26, eX4_lack_29, eX4_lack_32, eX4_lack_33, eX4_lack_34, eX4_lack_37, eX4_lack_38, eX4_lack_41, eX4_lack_42, eX4_lack_43, eX4_lack_46, eX4_lack_49, eX4_lack_50, eX4_lack_51, eX4_lack_52, eX4_lack_55, eX4_lack_58, eX4_lack_59, eX4_lack_62, one0, and_false, false_and, gk, gr, gi, gs, rv_some, ret_i, ret_n, Option.bind_some, List.cons_append, List.nil_append, z0, z1, zi, zj, i10, i01, true_or, or_true, eq_self, not_false_eq_true, not_true_eq_false, if_true, if_false, ite_not, Decidable.not_not, and_true, true_and, or_false, false_or, Nat.reduceLeDiff, Nat.reduceMod, Nat.reduceEqDiff, ld0 hD, ld1 hD, ld2 hD, ld3 hD, ld4 hD, ld5 hD, ld6 hD, lb0 (ldB hD), lb1 (ldB hD), lb2 (ldB hD), lb3 (ldB hD), lb4 (ldB hD), lb5 (ldB hD), lb6 (ldB hD), qA, qG, lt_f (Nat.le_refl nA) (show nA < 2147483648 by omega), dmax (show lacks s nA nR < 1000000000 by omega) (show g < 1000000000 by omega)]
theorem r7 : row (row I 587 p) (583 + 1) s (583 + 4) = p := by
  rw [row_n (by omega)]
  exact row_s
theorem rw7 : row (row (row I 587 p) (583 + 1) s) (583 + 4) f = row (row I 587 f) (583 + 1) s := by
  rw [row_swap (by omega)]
  exact congrArg (fun x => row x (583 + 1) s) row_row
end LACK

