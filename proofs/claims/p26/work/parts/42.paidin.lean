/-! paidIn -/
section PIN
variable {xl : Nat} {xs : Nat → Int32} {F : pm_F} {I J : Nat → Nat → Int32} {N : Nat} {s : St} {nA nH nR Rb Mb Nb : Nat} {p f : Nat → Int32} {x y : Int32}
/-- a report's state when one is paid or waits -/
theorem pay_st (hI : Iv s nA nH nR) {r q : Nat} (hrR : r < nR) (hd : isDue s r) : rp (paysS s nR r).1 q 3 = if q = r then (if ap s (tn (rp s r 1)) 2 + gp s 1 < price s r then 2 else 3) else rp s q 3 := by
  have h6 := hI.1.1.2
  have h8 := hI.1.2.1.2
  obtain ⟨a, haA, hra, ht⟩ := vin (hI.1.2.2.2 r hrR).2 (by omega)
  have ha6 : a < 6 := by omega
  unfold paysS
  split
  · rename_i hc
    dsimp only
    rw [rp_sR (by decide) (by decide)]
    by_cases e : q = r
    · rw [if_pos ⟨e, rfl⟩, if_pos e]
    · rw [if_neg (fun z => e z.1), if_neg e]
  · rename_i hc
    rw [ht]
    have hA := hI.payA (p := price s r) (own := ownS s a (price s r)) hrR ha6 hd
    have eA : rp (payA s r a (price s r) (ownS s a (price s r))) q 3 = if q = r then 3 else rp s q 3 := by
      unfold payA
      rw [rp_sR (by decide) (by decide), if_neg (by omega), rp_sR (by decide) (by decide), rp_sG (by decide), rp_sG (by decide), rp_sA ha6 (by decide)]
      by_cases e : q = r
      · rw [if_pos ⟨e, rfl⟩, if_pos e]
      · rw [if_neg (fun z => e z.1), if_neg e]
    generalize payA s r a (price s r) (ownS s a (price s r)) = y at hA eA
    have := lp_inv (fun _ (x : St × Int32 × Int32) => rp x.1 q 3 = (if q = r then 3 else rp s q 3) ∧ Iv x.1 nA nH nR) (shaG r (price s r)) nR (fun i x hi h => by
      refine ⟨?_, Iv.sha hi h.2⟩
      unfold shaG
      split
      · obtain ⟨b, hb, -, hbt⟩ := vin (h.2.1.2.2.2 i hi).1 (by omega)
        dsimp only
        rw [hbt]
        unfold giveS
        rw [rp_sH (by omega) (by decide)]
        exact h.1
      · exact h.1) nR 0 (y, price s r, 0) (by omega) ⟨eA, hA⟩
    obtain ⟨c, hc, -, hct⟩ := vin (this.2.1.2.2.2 r hrR).1 (by omega)
    unfold payB giveS
    dsimp only
    rw [hct, rp_sH (by omega) (by decide)]
    exact this.1
/-- a waiting one is paid only where some are paid -/
theorem beg_st (hI : Iv s nA nH nR) (b : Bd Rb Mb Nb s nA nH) (hR : Rb + 120000 < 100000000) (hM : Mb + 149760 < 2147483648) {r : Nat} (hrR : r < nR) (h2 : rp s r 3 = 2) :
    rp (begS s nA nR).1 r 3 = 2 ∨ rp (begS s nA nR).1 r 3 = 3 ∧ 0 < (begS s nA nR).2 := by
  have h40 := hI.1.2.2.1.2
  have e1 : rp (lp alG 0 nA s) r 3 = 2 := lp_inv (fun _ x => rp x r 3 = 2) alG nA (fun i x hi h => by
    have := hI.1.1.2
    unfold alG
    rw [rp_sA (by omega) (by decide), rp_sG (by decide)]
    exact h) nA 0 s (by omega) h2
  have := lp_inv (fun i (x : St × Int32) => (∃ c, c ≤ i ∧ x.2 = nI c ∧ (rp x.1 r 3 = 2 ∨ rp x.1 r 3 = 3 ∧ 1 ≤ c)) ∧ Bd (Rb + 120000) (Mb + 3744 * i) Nb x.1 nA nH ∧ Iv x.1 nA nH nR) (begG nR) nR (fun i x hi h => by
    obtain ⟨⟨c, hc, e2, e3⟩, hb, hx⟩ := h
    refine ⟨?_, ?_, hx.beg hi⟩
    · unfold begG
      split
      · rename_i hw
        obtain ⟨q, eq, q1, q2⟩ := price_n hx hb hi (due4 (hx.2 i hi) (Or.inr hw.1))
        dsimp only
        rw [pay_st hx hi (Or.inr hw.1), e2]
        have hp : (paysS x.1 nR i).2 = if ap x.1 (tn (rp x.1 i 1)) 2 + gp x.1 1 < price x.1 i then 0 else price x.1 i := by
          unfold paysS
          split <;> rfl
        rw [hp]
        by_cases hl : ap x.1 (tn (rp x.1 i 1)) 2 + gp x.1 1 < price x.1 i
        · rw [if_pos hl, if_pos hl, if_neg (by decide), Int32.add_zero]
          refine ⟨c, by omega, rfl, ?_⟩
          by_cases e : r = i
          · rw [if_pos e]; exact Or.inl rfl
          · rw [if_neg e]; exact e3
        · have hq0 : (0 : Int32) < nI q := nI_lt (a := 0) (by omega) (by omega)
          rw [if_neg hl, if_neg hl, eq, if_pos hq0, nI_1]
          refine ⟨c + 1, by omega, rfl, ?_⟩
          by_cases e : r = i
          · rw [if_pos e]; exact Or.inr ⟨rfl, by omega⟩
          · rw [if_neg e]; exact e3.imp id (fun z => ⟨z.1, by omega⟩)
      · exact ⟨c, by omega, e2, e3⟩
    · unfold begG
      split
      · rename_i hc
        exact (hb.pays hx hi (Or.inr hc.1) (by omega) (by omega)).mono (Nat.le_refl _) (by omega) (Nat.le_refl _)
      · exact hb.mono (Nat.le_refl _) (by omega) (Nat.le_refl _)) nR 0 (lp alG 0 nA s, 0) (by omega) ⟨⟨0, by omega, rfl, Or.inl e1⟩, b.als hI hR, hI.als⟩
  obtain ⟨⟨c, hc, e2, e3⟩, -, -⟩ := this
  refine e3.imp id (fun z => ⟨z.1, ?_⟩)
  show 0 < (lp (begG nR) 0 nR (lp alG 0 nA s, 0)).2
  rw [e2]
  exact nI_lt (a := 0) (by omega) (by omega)
/-- the days until it is paid, quarter by quarter -/
def pIn (nA nR r : Nat) : Nat → Nat → St → Int32
  | 0, _, _ => -10009
  | n + 1, dd, x => if rp (begS x nA nR).1 r 3 = 3 then nI dd else pIn nA nR r n (dd + 90) (begS x nA nR).1
theorem pIn_s (nA nR r n dd : Nat) (x : St) : pIn nA nR r (n + 1) dd x = if rp (begS x nA nR).1 r 3 = 3 then nI dd else pIn nA nR r n (dd + 90) (begS x nA nR).1 := rfl
theorem X4_paidIn_ev (hD : LD F) (hR : RB I 1 s nA nH nR) (hI : Iv s nA nH nR) {r d : Nat} (hrR : r < nR) (h2 : rp s r 3 = 2) (hd : gp s 0 = nI d) (hd2 : d < 10000) : ∃ J, pm_ev tb xl xs mX4_paidIn 0 [some (.ref 0), some (.int (nI r)), none, none] [] (pm_G F I) = some (some (.int (pIn nA nR r 12 (90 - d % 90) s)), pm_G F J) ∧ Fr I J 59 := by
  have hB := ldB hD
  have hB2 := ldF hD
  have h6 := hI.1.1.2
  have h8 := hI.1.2.1.2
  have h40 := hI.1.2.2.1.2
  have hr : r < 40 := by omega
  have qR : I 1 5 = nI nR := (rbg5 hR).trans hI.1.2.2.1.1
  have qD : I 1 6 = nI d := (rbg6 hR).trans hd
  have ho : ¬ out (nI r) nR := in_n hrR (by omega)
  have ed2 : nI d / 90 = nI (d / 90) := pk_div (d := 90) (by omega) (by omega) (by omega)
  obtain ⟨J, e1, hRJ, hFJ⟩ := X1_copyFrom_ev (xl := xl) (xs := xs) hB2 hB (Or.inl (by omega)) hR hI
  have jD : J 1 6 = nI d := by rw [hFJ 1 (by omega)]; exact qD
  have key : ∀ n i (x : St) (K : Nat → Nat → Int32), i + n = 12 → RB K 59 x nA nH nR → Iv x nA nH nR → K 1 6 = nI d → ∃ L, pm_ev tb xl xs mX4_paidIn 59 [some (.ref 0), some (.int (nI r)), some (.int (nI (d / 90))), some (.int (nI (i + 1)))] [] (pm_G F K) = some (some (.int (pIn nA nR r n (90 * (i + 1) - d % 90) x)), pm_G F L) ∧ Fr K L 59 := by
    intro n
    induction n with
    | zero =>
      intro i x K hi hRK hx hK
      have e : ((12 : Int32) < nI (i + 1)) = True := lt_t (i := 12) (by omega) (by omega)
      refine ⟨K, ?_, Fr.rf⟩
      rw [eX4_paidIn_59]
      simp only [eX4_paidIn_0, eX4_paidIn_1, eX4_paidIn_4, eX4_paidIn_5, eX4_paidIn_8, eX4_paidIn_11, eX4_paidIn_14, eX4_paidIn_15, eX4_paidIn_16, eX4_paidIn_19, eX4_paidIn_22, eX4_paidIn_23, eX4_paidIn_24, eX4_paidIn_27, eX4_paidIn_28, eX4_paidIn_31, eX4_paidIn_34, eX4_paidIn_35, eX4_paidIn_36, eX4_paidIn_39, eX4_paidIn_40, eX4_paidIn_43, eX4_paidIn_46, eX4_paidIn_47, eX4_paidIn_50, eX4_paidIn_53, eX4_paidIn_55, eX4_paidIn_56, eX4_paidIn_57, eX4_paidIn_58, eX4_paidIn_60, eX4_paidIn_62, eX4_paidIn_65, eX4_paidIn_66, eX4_paidIn_69, eX4_paidIn_72, eX4_paidIn_73, eX4_paidIn_74, eX4_paidIn_77, eX4_paidIn_80, eX4_paidIn_81, eX4_paidIn_82, eX4_paidIn_85, eX4_paidIn_86, eX4_paidIn_89, eX4_paidIn_90, eX4_paidIn_91, eX4_paidIn_92, eX4_paidIn_94, eX4_paidIn_95, eX4_paidIn_96, eX4_paidIn_99, eX4_paidIn_102, eX4_paidIn_103, eX4_paidIn_104, eX4_paidIn_107, eX4_paidIn_110, eX4_paidIn_113, one0, and_false, false_and, gk, gr, gi, gs, rv_some, ret_i, ret_n, Option.bind_some, List.cons_append, List.nil_append, z0, z1, zi, zj, i10, i01, true_or, or_true, eq_self, not_false_eq_true, not_true_eq_false, if_true, if_false, ite_not, Decidable.not_not, and_true, true_and, or_false, false_or, Nat.reduceLeDiff, Nat.reduceMod, Nat.reduceEqDiff, e, pIn]
    | succ n ih =>
      intro i x K hi hRK hx hK
      have e : ((12 : Int32) < nI (i + 1)) = False := lt_f (n := i + 1) (i := 12) (by omega) (by omega)
      obtain ⟨L, e3, hRL, hFL⟩ := X1_beginQuarter_ev (xl := xl) (xs := xs) hB2 hRK hx
      have lD : L 1 6 = nI d := by rw [hFL 1 (by omega)]; exact hK
      rw [eX4_paidIn_59]
      by_cases hc : rp (begS x nA nR).1 r 3 = 3
      · refine ⟨L, ?_, hFL⟩
        have ev : (nI (d / 90) + nI (i + 1)) * 90 - nI d = nI (90 * (i + 1) - d % 90) := by
          rw [nI_add, show (90 : Int32) = nI 90 from rfl, pk_mul, pk_sub (by omega)]
          exact congrArg nI (by omega)
        rw [pIn_s, if_pos hc]
        simp only [eX4_paidIn_0, eX4_paidIn_1, eX4_paidIn_4, eX4_paidIn_5, eX4_paidIn_8, eX4_paidIn_11, eX4_paidIn_14, eX4_paidIn_15, eX4_paidIn_16, eX4_paidIn_19, eX4_paidIn_22, eX4_paidIn_23, eX4_paidIn_24, eX4_paidIn_27, eX4_paidIn_28, eX4_paidIn_31, eX4_paidIn_34, eX4_paidIn_35, eX4_paidIn_36, eX4_paidIn_39, eX4_paidIn_40, eX4_paidIn_43, eX4_paidIn_46, eX4_paidIn_47, eX4_paidIn_50, eX4_paidIn_53, eX4_paidIn_55, eX4_paidIn_56, eX4_paidIn_57, eX4_paidIn_58, eX4_paidIn_60, eX4_paidIn_62, eX4_paidIn_65, eX4_paidIn_66, eX4_paidIn_69, eX4_paidIn_72, eX4_paidIn_73, eX4_paidIn_74, eX4_paidIn_77, eX4_paidIn_80, eX4_paidIn_81, eX4_paidIn_82, eX4_paidIn_85, eX4_paidIn_86, eX4_paidIn_89, eX4_paidIn_90, eX4_paidIn_91, eX4_paidIn_92, eX4_paidIn_94, eX4_paidIn_95, eX4_paidIn_96, eX4_paidIn_99, eX4_paidIn_102, eX4_paidIn_103, eX4_paidIn_104, eX4_paidIn_107, eX4_paidIn_110, eX4_paidIn_113, one0, and_false, false_and, gk, gr, gi, gs, rv_some, ret_i, ret_n, Option.bind_some, List.cons_append, List.nil_append, z0, z1, zi, zj, i10, i01, true_or, or_true, eq_self, not_false_eq_true, not_true_eq_false, if_true, if_false, ite_not, Decidable.not_not, and_true, true_and, or_false, false_or, Nat.reduceLeDiff, Nat.reduceMod, Nat.reduceEqDiff, ld0 hD, ld1 hD, ld2 hD, ld3 hD, ld4 hD, ld5 hD, ld6 hD, lb0 (ldB hD), lb1 (ldB hD), lb2 (ldB hD), lb3 (ldB hD), lb4 (ldB hD), lb5 (ldB hD), lb6 (ldB hD), e, e3, lb0 hB2, lb3 hB2, lb6 hB2, lbr hB2 hr, lbr2 hB2 hr, ix40 hr, cl40 hr, rbr3 hRL hrR, hc, lD, ev]
      · obtain ⟨P, e4, hFP⟩ := ih (i + 1) _ L (by omega) hRL hx.begs lD
        refine ⟨P, ?_, hFL.tr hFP⟩
        rw [pIn_s, if_neg hc]
        simp only [eX4_paidIn_0, eX4_paidIn_1, eX4_paidIn_4, eX4_paidIn_5, eX4_paidIn_8, eX4_paidIn_11, eX4_paidIn_14, eX4_paidIn_15, eX4_paidIn_16, eX4_paidIn_19, eX4_paidIn_22, eX4_paidIn_23, eX4_paidIn_24, eX4_paidIn_27, eX4_paidIn_28, eX4_paidIn_31, eX4_paidIn_34, eX4_paidIn_35, eX4_paidIn_36, eX4_paidIn_39, eX4_paidIn_40, eX4_paidIn_43, eX4_paidIn_46, eX4_paidIn_47, eX4_paidIn_50, eX4_paidIn_53, eX4_paidIn_55, eX4_paidIn_56, eX4_paidIn_57, eX4_paidIn_58, eX4_paidIn_60, eX4_paidIn_62, eX4_paidIn_65, eX4_paidIn_66, eX4_paidIn_69, eX4_paidIn_72, eX4_paidIn_73, eX4_paidIn_74, eX4_paidIn_77, eX4_paidIn_80, eX4_paidIn_81, eX4_paidIn_82, eX4_paidIn_85, eX4_paidIn_86, eX4_paidIn_89, eX4_paidIn_90, eX4_paidIn_91, eX4_paidIn_92, eX4_paidIn_94, eX4_paidIn_95, eX4_paidIn_96, eX4_paidIn_99, eX4_paidIn_102, eX4_paidIn_103, eX4_paidIn_104, eX4_paidIn_107, eX4_paidIn_110, eX4_paidIn_113, one0, and_false, false_and, gk, gr, gi, gs, rv_some, ret_i, ret_n, Option.bind_some, List.cons_append, List.nil_append, z0, z1, zi, zj, i10, i01, true_or, or_true, eq_self, not_false_eq_true, not_true_eq_false, if_true, if_false, ite_not, Decidable.not_not, and_true, true_and, or_false, false_or, Nat.reduceLeDiff, Nat.reduceMod, Nat.reduceEqDiff, ld0 hD, ld1 hD, ld2 hD, ld3 hD, ld4 hD, ld5 hD, ld6 hD, lb0 (ldB hD), lb1 (ldB hD), lb2 (ldB hD), lb3 (ldB hD), lb4 (ldB hD), lb5 (ldB hD), lb6 (ldB hD), e, e3, lb0 hB2, lb3 hB2, lb6 hB2, lbr hB2 hr, lbr2 hB2 hr, ix40 hr, cl40 hr, rbr3 hRL hrR, hc, nI_1]
        rw [show 90 * (i + 1) - d % 90 + 90 = 90 * (i + 1 + 1) - d % 90 by omega]
        exact e4
  obtain ⟨L, e2, hFL⟩ := key 12 0 s J (by omega) hRJ hI jD
  refine ⟨L, ?_, hFJ.tr hFL⟩
  simp only [eX4_paidIn_0, eX4_paidIn_1, eX4_paidIn_4, eX4_paidIn_5, eX4_paidIn_8, eX4_paidIn_11, eX4_paidIn_14, eX4_paidIn_15, eX4_paidIn_16, eX4_paidIn_19, eX4_paidIn_22, eX4_paidIn_23, eX4_paidIn_24, eX4_paidIn_27, eX4_paidIn_28, eX4_paidIn_31, eX4_paidIn_34, eX4_paidIn_35, eX4_paidIn_36, eX4_paidIn_39, eX4_paidIn_40, eX4_paidIn_43, eX4_paidIn_46, eX4_paidIn_47, eX4_paidIn_50, eX4_paidIn_53, eX4_paidIn_55, eX4_paidIn_56, eX4_paidIn_57, eX4_paidIn_58, eX4_paidIn_60, eX4_paidIn_62, eX4_paidIn_65, eX4_paidIn_66, eX4_paidIn_69, eX4_paidIn_72, eX4_paidIn_73, eX4_paidIn_74, eX4_paidIn_77, eX4_paidIn_80, eX4_paidIn_81, eX4_paidIn_82, eX4_paidIn_85, eX4_paidIn_86, eX4_paidIn_89, eX4_paidIn_90, eX4_paidIn_91, eX4_paidIn_92, eX4_paidIn_94, eX4_paidIn_95, eX4_paidIn_96, eX4_paidIn_99, eX4_paidIn_102, eX4_paidIn_103, eX4_paidIn_104, eX4_paidIn_107, eX4_paidIn_110, eX4_paidIn_113, one0, and_false, false_and, gk, gr, gi, gs, rv_some, ret_i, ret_n, Option.bind_some, List.cons_append, List.nil_append, z0, z1, zi, zj, i10, i01, true_or, or_true, eq_self, not_false_eq_true, not_true_eq_false, if_true, if_false, ite_not, Decidable.not_not, and_true, true_and, or_false, false_or, Nat.reduceLeDiff, Nat.reduceMod, Nat.reduceEqDiff, ld0 hD, ld1 hD, ld2 hD, ld3 hD, ld4 hD, ld5 hD, ld6 hD, lb0 (ldB hD), lb1 (ldB hD), lb2 (ldB hD), lb3 (ldB hD), lb4 (ldB hD), lb5 (ldB hD), lb6 (ldB hD), lbr hB hr, lbr2 hB hr, ix40 hr, cl40 hr, X1_hasReport_ev hB qR (by omega), ho, rbr3 hR hrR, h2, lb0 hB2, e1, jD, d90, ed2]
  exact e2
theorem r6 : row (row I 586 p) (583 + 1) s (583 + 3) = p := by
  rw [row_n (by omega)]
  exact row_s
theorem rw6 : row (row (row I 586 p) (583 + 1) s) (583 + 3) f = row (row I 586 f) (583 + 1) s := by
  rw [row_swap (by omega)]
  exact congrArg (fun x => row x (583 + 1) s) row_row
end PIN

