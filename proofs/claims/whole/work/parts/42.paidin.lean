/-! paidIn -/
section PIN
variable {xl : Nat} {xs : Nat → Int32} {F : pm_F} {I J : Nat → Nat → Int32} {N : Nat} {s : St} {nA nH nR Rb Mb Nb : Nat} {p f : Nat → Int32} {x y : Int32}
theorem Full.off2 (h : Full N I) (h4 : ∀ k, k < 539 → J 584 k = I 584 k) (hJ : ∀ k, k ≤ 58 ∨ 118 ≤ k ∧ k < 582 ∨ k = 583 ∨ k = 585 → J k = I k) : Full N J := by
  obtain ⟨n, m, H, nA, nH, nR, h1, h2, h3, h5, h6⟩ := h
  refine ⟨n, m, H, nA, nH, nR, ?_, h2.cg h4, h3.to (hJ 0 (by omega)) (fun k g1 g2 => hJ k (by omega)), ?_⟩
  · exact h1.to h2.1.1.1.2 h2.1.1.2.1.2 h2.1.1.2.2.1.2 (fun k g1 g2 => hJ k (by omega)) h4
  · exact ⟨by rw [hJ 583 (by omega)]; exact h5, fun j hj k hk => by rw [hJ 585 (by omega)]; exact h6 j hj k hk⟩
/-- a report's state when one is paid or waits -/
theorem pay_st (hI : Iv s nA nH nR) {r q : Nat} (hrR : r < nR) (hd : isDue s r) : rp (paysS s nR r).1 q 3 = if q = r then (if ap s (tn (rp s r 1)) 2 + gp s 1 < price s r then 2 else 3) else rp s q 3 := by
  have h6 := hI.1.1.2
  have h8 := hI.1.2.1.2
  obtain ⟨a, haA, hra, ht⟩ := vin (hI.1.2.2.2 r hrR).2 (by omega)
  have ha6 : a < 6 := by omega
  unfold paysS
  split
  · rename_i hc
    dsimp only
    rw [rp_sR (by decide) (by decide)]
    by_cases e : q = r
    · rw [if_pos ⟨e, rfl⟩, if_pos e]
    · rw [if_neg (fun z => e z.1), if_neg e]
  · rename_i hc
    rw [ht]
    have hA := hI.payA (p := price s r) (own := ownS s a (price s r)) hrR ha6 hd
    have eA : rp (payA s r a (price s r) (ownS s a (price s r))) q 3 = if q = r then 3 else rp s q 3 := by
      unfold payA
      rw [rp_sR (by decide) (by decide), if_neg (by omega), rp_sR (by decide) (by decide), rp_sG (by decide), rp_sG (by decide), rp_sA ha6 (by decide)]
      by_cases e : q = r
      · rw [if_pos ⟨e, rfl⟩, if_pos e]
      · rw [if_neg (fun z => e z.1), if_neg e]
    generalize payA s r a (price s r) (ownS s a (price s r)) = y at hA eA
    have := lp_inv (fun _ (x : St × Int32 × Int32) => rp x.1 q 3 = (if q = r then 3 else rp s q 3) ∧ Iv x.1 nA nH nR) (shaG r (price s r)) nR (fun i x hi h => by
      refine ⟨?_, Iv.sha hi h.2⟩
      unfold shaG
      split
      · obtain ⟨b, hb, -, hbt⟩ := vin (h.2.1.2.2.2 i hi).1 (by omega)
        dsimp only
        rw [hbt]
        unfold giveS
        rw [rp_sH (by omega) (by decide)]
        exact h.1
      · exact h.1) nR 0 (y, price s r, 0) (by omega) ⟨eA, hA⟩
    obtain ⟨c, hc, -, hct⟩ := vin (this.2.1.2.2.2 r hrR).1 (by omega)
    unfold payB giveS
    dsimp only
    rw [hct, rp_sH (by omega) (by decide)]
    exact this.1
/-- a waiting one is paid only where some are paid -/
theorem beg_st (hI : Iv s nA nH nR) (b : Bd Rb Mb Nb s nA nH) (hR : Rb + 120000 < 100000000) (hM : Mb + 149760 < 2147483648) {r : Nat} (hrR : r < nR) (h2 : rp s r 3 = 2) :
    rp (begS s nA nR).1 r 3 = 2 ∨ rp (begS s nA nR).1 r 3 = 3 ∧ 0 < (begS s nA nR).2 := by
  have h40 := hI.1.2.2.1.2
  have e1 : rp (lp alG 0 nA s) r 3 = 2 := lp_inv (fun _ x => rp x r 3 = 2) alG nA (fun i x hi h => by
    have := hI.1.1.2
    unfold alG
    rw [rp_sA (by omega) (by decide), rp_sG (by decide)]
    exact h) nA 0 s (by omega) h2
  have := lp_inv (fun i (x : St × Int32) => (∃ c, c ≤ i ∧ x.2 = nI c ∧ (rp x.1 r 3 = 2 ∨ rp x.1 r 3 = 3 ∧ 1 ≤ c)) ∧ Bd (Rb + 120000) (Mb + 3744 * i) Nb x.1 nA nH ∧ Iv x.1 nA nH nR) (begG nR) nR (fun i x hi h => by
    obtain ⟨⟨c, hc, e2, e3⟩, hb, hx⟩ := h
    refine ⟨?_, ?_, hx.beg hi⟩
    · unfold begG
      split
      · rename_i hw
        obtain ⟨q, eq, q1, q2⟩ := price_n hx hb hi (due4 (hx.2 i hi) (Or.inr hw.1))
        dsimp only
        rw [pay_st hx hi (Or.inr hw.1), e2]
        have hp : (paysS x.1 nR i).2 = if ap x.1 (tn (rp x.1 i 1)) 2 + gp x.1 1 < price x.1 i then 0 else price x.1 i := by
          unfold paysS
          split <;> rfl
        rw [hp]
        by_cases hl : ap x.1 (tn (rp x.1 i 1)) 2 + gp x.1 1 < price x.1 i
        · rw [if_pos hl, if_pos hl, if_neg (by decide), Int32.add_zero]
          refine ⟨c, by omega, rfl, ?_⟩
          by_cases e : r = i
          · rw [if_pos e]; exact Or.inl rfl
          · rw [if_neg e]; exact e3
        · have hq0 : (0 : Int32) < nI q := nI_lt (a := 0) (by omega) (by omega)
          rw [if_neg hl, if_neg hl, eq, if_pos hq0, nI_1]
          refine ⟨c + 1, by omega, rfl, ?_⟩
          by_cases e : r = i
          · rw [if_pos e]; exact Or.inr ⟨rfl, by omega⟩
          · rw [if_neg e]; exact e3.imp id (fun z => ⟨z.1, by omega⟩)
      · exact ⟨c, by omega, e2, e3⟩
    · unfold begG
      split
      · rename_i hc
        exact (hb.pays hx hi (Or.inr hc.1) (by omega) (by omega)).mono (Nat.le_refl _) (by omega) (Nat.le_refl _)
      · exact hb.mono (Nat.le_refl _) (by omega) (Nat.le_refl _)) nR 0 (lp alG 0 nA s, 0) (by omega) ⟨⟨0, by omega, rfl, Or.inl e1⟩, b.als hI hR, hI.als⟩
  obtain ⟨⟨c, hc, e2, e3⟩, -, -⟩ := this
  refine e3.imp id (fun z => ⟨z.1, ?_⟩)
  show 0 < (lp (begG nR) 0 nR (lp alG 0 nA s, 0)).2
  rw [e2]
  exact nI_lt (a := 0) (by omega) (by omega)
/-- the days until it is paid, quarter by quarter -/
def pIn (nA nR r : Nat) : Nat → Nat → St → Int32
  | 0, _, _ => -10009
  | n + 1, dd, x => if rp (begS x nA nR).1 r 3 = 3 then nI dd else pIn nA nR r n (dd + 90) (begS x nA nR).1
theorem pIn_s (nA nR r n dd : Nat) (x : St) : pIn nA nR r (n + 1) dd x = if rp (begS x nA nR).1 r 3 = 3 then nI dd else pIn nA nR r n (dd + 90) (begS x nA nR).1 := rfl
theorem X4_paidIn_ev (hD : LD F) (hR : RB I 1 s nA nH nR) (hI : Iv s nA nH nR) {r d : Nat} (hrR : r < nR) (h2 : rp s r 3 = 2) (hd : gp s 0 = nI d) (hd2 : d < 10000) : ∃ J, pm_ev tb xl xs mX4_paidIn 0 [some (.ref 0), some (.int (nI r)), none, none] [] (pm_G F I) = some (some (.int (pIn nA nR r 12 (90 - d % 90) s)), pm_G F J) ∧ Fr I J 59 := by
  have hB := ldB hD
  have hB2 := ldF hD
  have h6 := hI.1.1.2
  have h8 := hI.1.2.1.2
  have h40 := hI.1.2.2.1.2
  have hr : r < 40 := by omega
  have qR : I 1 5 = nI nR := (rbg5 hR).trans hI.1.2.2.1.1
  have qD : I 1 6 = nI d := (rbg6 hR).trans hd
  have ho : ¬ out (nI r) nR := in_n hrR (by omega)
  have ed2 : nI d / 90 = nI (d / 90) := pk_div (d := 90) (by omega) (by omega) (by omega)
  obtain ⟨J, e1, hRJ, hFJ⟩ := X1_copyFrom_ev (xl := xl) (xs := xs) hB2 hB (Or.inl (by omega)) hR hI
  have jD : J 1 6 = nI d := by rw [hFJ 1 (by omega)]; exact qD
  have key : ∀ n i (x : St) (K : Nat → Nat → Int32), i + n = 12 → RB K 59 x nA nH nR → Iv x nA nH nR → K 1 6 = nI d → ∃ L, pm_ev tb xl xs mX4_paidIn 59 [some (.ref 0), some (.int (nI r)), some (.int (nI (d / 90))), some (.int (nI (i + 1)))] [] (pm_G F K) = some (some (.int (pIn nA nR r n (90 * (i + 1) - d % 90) x)), pm_G F L) ∧ Fr K L 59 := by
    intro n
    induction n with
    | zero =>
      intro i x K hi hRK hx hK
      have e : ((12 : Int32) < nI (i + 1)) = True := lt_t (i := 12) (by omega) (by omega)
      refine ⟨K, ?_, Fr.rf⟩
      rw [eX4_paidIn_59]
      simp only [eX4_paidIn_0, eX4_paidIn_1, eX4_paidIn_4, eX4_paidIn_5, eX4_paidIn_8, eX4_paidIn_11, eX4_paidIn_14, eX4_paidIn_15, eX4_paidIn_16, eX4_paidIn_19, eX4_paidIn_22, eX4_paidIn_23, eX4_paidIn_24, eX4_paidIn_27, eX4_paidIn_28, eX4_paidIn_31, eX4_paidIn_34, eX4_paidIn_35, eX4_paidIn_36, eX4_paidIn_39, eX4_paidIn_40, eX4_paidIn_43, eX4_paidIn_46, eX4_paidIn_47, eX4_paidIn_50, eX4_paidIn_53, eX4_paidIn_55, eX4_paidIn_56, eX4_paidIn_57, eX4_paidIn_58, eX4_paidIn_60, eX4_paidIn_62, eX4_paidIn_65, eX4_paidIn_66, eX4_paidIn_69, eX4_paidIn_72, eX4_paidIn_73, eX4_paidIn_74, eX4_paidIn_77, eX4_paidIn_80, eX4_paidIn_81, eX4_paidIn_82, eX4_paidIn_85, eX4_paidIn_86, eX4_paidIn_89, eX4_paidIn_90, eX4_paidIn_91, eX4_paidIn_92, eX4_paidIn_94, eX4_paidIn_95, eX4_paidIn_96, eX4_paidIn_99, eX4_paidIn_102, eX4_paidIn_103, eX4_paidIn_104, eX4_paidIn_107, eX4_paidIn_110, eX4_paidIn_113, one0, and_false, false_and, gk, gr, gi, gs, rv_some, ret_i, ret_n, Option.bind_some, List.cons_append, List.nil_append, z0, z1, zi, zj, i10, i01, true_or, or_true, eq_self, not_false_eq_true, not_true_eq_false, if_true, if_false, ite_not, Decidable.not_not, and_true, true_and, or_false, false_or, Nat.reduceLeDiff, Nat.reduceMod, Nat.reduceEqDiff, e, pIn]
    | succ n ih =>
      intro i x K hi hRK hx hK
      have e : ((12 : Int32) < nI (i + 1)) = False := lt_f (n := i + 1) (i := 12) (by omega) (by omega)
      obtain ⟨L, e3, hRL, hFL⟩ := X1_beginQuarter_ev (xl := xl) (xs := xs) hB2 hRK hx
      have lD : L 1 6 = nI d := by rw [hFL 1 (by omega)]; exact hK
      rw [eX4_paidIn_59]
      by_cases hc : rp (begS x nA nR).1 r 3 = 3
      · refine ⟨L, ?_, hFL⟩
        have ev : (nI (d / 90) + nI (i + 1)) * 90 - nI d = nI (90 * (i + 1) - d % 90) := by
          rw [nI_add, show (90 : Int32) = nI 90 from rfl, pk_mul, pk_sub (by omega)]
          exact congrArg nI (by omega)
        rw [pIn_s, if_pos hc]
        simp only [eX4_paidIn_0, eX4_paidIn_1, eX4_paidIn_4, eX4_paidIn_5, eX4_paidIn_8, eX4_paidIn_11, eX4_paidIn_14, eX4_paidIn_15, eX4_paidIn_16, eX4_paidIn_19, eX4_paidIn_22, eX4_paidIn_23, eX4_paidIn_24, eX4_paidIn_27, eX4_paidIn_28, eX4_paidIn_31, eX4_paidIn_34, eX4_paidIn_35, eX4_paidIn_36, eX4_paidIn_39, eX4_paidIn_40, eX4_paidIn_43, eX4_paidIn_46, eX4_paidIn_47, eX4_paidIn_50, eX4_paidIn_53, eX4_paidIn_55, eX4_paidIn_56, eX4_paidIn_57, eX4_paidIn_58, eX4_paidIn_60, eX4_paidIn_62, eX4_paidIn_65, eX4_paidIn_66, eX4_paidIn_69, eX4_paidIn_72, eX4_paidIn_73, eX4_paidIn_74, eX4_paidIn_77, eX4_paidIn_80, eX4_paidIn_81, eX4_paidIn_82, eX4_paidIn_85, eX4_paidIn_86, eX4_paidIn_89, eX4_paidIn_90, eX4_paidIn_91, eX4_paidIn_92, eX4_paidIn_94, eX4_paidIn_95, eX4_paidIn_96, eX4_paidIn_99, eX4_paidIn_102, eX4_paidIn_103, eX4_paidIn_104, eX4_paidIn_107, eX4_paidIn_110, eX4_paidIn_113, one0, and_false, false_and, gk, gr, gi, gs, rv_some, ret_i, ret_n, Option.bind_some, List.cons_append, List.nil_append, z0, z1, zi, zj, i10, i01, true_or, or_true, eq_self, not_false_eq_true, not_true_eq_false, if_true, if_false, ite_not, Decidable.not_not, and_true, true_and, or_false, false_or, Nat.reduceLeDiff, Nat.reduceMod, Nat.reduceEqDiff, ld0 hD, ld1 hD, ld2 hD, ld3 hD, ld4 hD, ld5 hD, ld6 hD, lb0 (ldB hD), lb1 (ldB hD), lb2 (ldB hD), lb3 (ldB hD), lb4 (ldB hD), lb5 (ldB hD), lb6 (ldB hD), e, e3, lb0 hB2, lb3 hB2, lb6 hB2, lbr hB2 hr, lbr2 hB2 hr, ix40 hr, cl40 hr, rbr3 hRL hrR, hc, lD, ev]
      · obtain ⟨P, e4, hFP⟩ := ih (i + 1) _ L (by omega) hRL hx.begs lD
        refine ⟨P, ?_, hFL.tr hFP⟩
        rw [pIn_s, if_neg hc]
        simp only [eX4_paidIn_0, eX4_paidIn_1, eX4_paidIn_4, eX4_paidIn_5, eX4_paidIn_8, eX4_paidIn_11, eX4_paidIn_14, eX4_paidIn_15, eX4_paidIn_16, eX4_paidIn_19, eX4_paidIn_22, eX4_paidIn_23, eX4_paidIn_24, eX4_paidIn_27, eX4_paidIn_28, eX4_paidIn_31, eX4_paidIn_34, eX4_paidIn_35, eX4_paidIn_36, eX4_paidIn_39, eX4_paidIn_40, eX4_paidIn_43, eX4_paidIn_46, eX4_paidIn_47, eX4_paidIn_50, eX4_paidIn_53, eX4_paidIn_55, eX4_paidIn_56, eX4_paidIn_57, eX4_paidIn_58, eX4_paidIn_60, eX4_paidIn_62, eX4_paidIn_65, eX4_paidIn_66, eX4_paidIn_69, eX4_paidIn_72, eX4_paidIn_73, eX4_paidIn_74, eX4_paidIn_77, eX4_paidIn_80, eX4_paidIn_81, eX4_paidIn_82, eX4_paidIn_85, eX4_paidIn_86, eX4_paidIn_89, eX4_paidIn_90, eX4_paidIn_91, eX4_paidIn_92, eX4_paidIn_94, eX4_paidIn_95, eX4_paidIn_96, eX4_paidIn_99, eX4_paidIn_102, eX4_paidIn_103, eX4_paidIn_104, eX4_paidIn_107, eX4_paidIn_110, eX4_paidIn_113, one0, and_false, false_and, gk, gr, gi, gs, rv_some, ret_i, ret_n, Option.bind_some, List.cons_append, List.nil_append, z0, z1, zi, zj, i10, i01, true_or, or_true, eq_self, not_false_eq_true, not_true_eq_false, if_true, if_false, ite_not, Decidable.not_not, and_true, true_and, or_false, false_or, Nat.reduceLeDiff, Nat.reduceMod, Nat.reduceEqDiff, ld0 hD, ld1 hD, ld2 hD, ld3 hD, ld4 hD, ld5 hD, ld6 hD, lb0 (ldB hD), lb1 (ldB hD), lb2 (ldB hD), lb3 (ldB hD), lb4 (ldB hD), lb5 (ldB hD), lb6 (ldB hD), e, e3, lb0 hB2, lb3 hB2, lb6 hB2, lbr hB2 hr, lbr2 hB2 hr, ix40 hr, cl40 hr, rbr3 hRL hrR, hc, nI_1]
        rw [show 90 * (i + 1) - d % 90 + 90 = 90 * (i + 1 + 1) - d % 90 by omega]
        exact e4
  obtain ⟨L, e2, hFL⟩ := key 12 0 s J (by omega) hRJ hI jD
  refine ⟨L, ?_, hFJ.tr hFL⟩
  simp only [eX4_paidIn_0, eX4_paidIn_1, eX4_paidIn_4, eX4_paidIn_5, eX4_paidIn_8, eX4_paidIn_11, eX4_paidIn_14, eX4_paidIn_15, eX4_paidIn_16, eX4_paidIn_19, eX4_paidIn_22, eX4_paidIn_23, eX4_paidIn_24, eX4_paidIn_27, eX4_paidIn_28, eX4_paidIn_31, eX4_paidIn_34, eX4_paidIn_35, eX4_paidIn_36, eX4_paidIn_39, eX4_paidIn_40, eX4_paidIn_43, eX4_paidIn_46, eX4_paidIn_47, eX4_paidIn_50, eX4_paidIn_53, eX4_paidIn_55, eX4_paidIn_56, eX4_paidIn_57, eX4_paidIn_58, eX4_paidIn_60, eX4_paidIn_62, eX4_paidIn_65, eX4_paidIn_66, eX4_paidIn_69, eX4_paidIn_72, eX4_paidIn_73, eX4_paidIn_74, eX4_paidIn_77, eX4_paidIn_80, eX4_paidIn_81, eX4_paidIn_82, eX4_paidIn_85, eX4_paidIn_86, eX4_paidIn_89, eX4_paidIn_90, eX4_paidIn_91, eX4_paidIn_92, eX4_paidIn_94, eX4_paidIn_95, eX4_paidIn_96, eX4_paidIn_99, eX4_paidIn_102, eX4_paidIn_103, eX4_paidIn_104, eX4_paidIn_107, eX4_paidIn_110, eX4_paidIn_113, one0, and_false, false_and, gk, gr, gi, gs, rv_some, ret_i, ret_n, Option.bind_some, List.cons_append, List.nil_append, z0, z1, zi, zj, i10, i01, true_or, or_true, eq_self, not_false_eq_true, not_true_eq_false, if_true, if_false, ite_not, Decidable.not_not, and_true, true_and, or_false, false_or, Nat.reduceLeDiff, Nat.reduceMod, Nat.reduceEqDiff, ld0 hD, ld1 hD, ld2 hD, ld3 hD, ld4 hD, ld5 hD, ld6 hD, lb0 (ldB hD), lb1 (ldB hD), lb2 (ldB hD), lb3 (ldB hD), lb4 (ldB hD), lb5 (ldB hD), lb6 (ldB hD), lbr hB hr, lbr2 hB hr, ix40 hr, cl40 hr, X1_hasReport_ev hB qR (by omega), ho, rbr3 hR hrR, h2, lb0 hB2, e1, jD, d90, ed2]
  exact e2
theorem r6 : row (row I 586 p) (583 + 1) s (583 + 3) = p := by
  rw [row_n (by omega)]
  exact row_s
theorem rw6 : row (row (row I 586 p) (583 + 1) s) (583 + 3) f = row (row I 586 f) (583 + 1) s := by
  rw [row_swap (by omega)]
  exact congrArg (fun x => row x (583 + 1) s) row_row
theorem X5_paidIn_out (hM : LM F 583) {r : Nat} {w v u : Int32} {l5 : Option Value} : pm_ev tb xl xs mX5_paidIn 125 [some (.ref 583), some (.int (nI r)), some (.int w), some (.int v), some (.int u), l5] [] (pm_G F (row (row I 586 p) 584 s)) = some (some (.int v), pm_G F (row (row I 586 p) 584 (lp (fun i (x : St) => upd x i (p i)) 0 539 s))) := by
  have h1 := lp_ev0 539 (fun i (x : St) => pm_ev tb xl xs mX5_paidIn 128 [some (.ref 583), some (.int (nI r)), some (.int w), some (.int v), some (.int (nI i)), l5] [] (pm_G F (row (row I 586 p) 584 x))) (fun i (x : St) => upd x i (p i)) (fun i x hi => by
    have e1 : (nI i < 539) = True := lt_t (n := 539) hi (by omega)
    have e5 : vp_in (nI i) 539 := ix_n hi (by omega)
    have e6 : (nI i).toNatClampNeg = i := cl_n (by omega)
    show pm_ev tb xl xs mX5_paidIn 128 [some (.ref 583), some (.int (nI r)), some (.int w), some (.int v), some (.int (nI i)), l5] [] (pm_G F (row (row I 586 p) 584 x)) = _
    rw [eX5_paidIn_128]
    simp only [eX5_paidIn_0, eX5_paidIn_1, eX5_paidIn_2, eX5_paidIn_5, eX5_paidIn_8, eX5_paidIn_11, eX5_paidIn_12, eX5_paidIn_13, eX5_paidIn_14, eX5_paidIn_15, eX5_paidIn_18, eX5_paidIn_19, eX5_paidIn_22, eX5_paidIn_25, eX5_paidIn_26, eX5_paidIn_27, eX5_paidIn_29, eX5_paidIn_32, eX5_paidIn_35, eX5_paidIn_36, eX5_paidIn_39, eX5_paidIn_40, eX5_paidIn_41, eX5_paidIn_44, eX5_paidIn_45, eX5_paidIn_46, eX5_paidIn_47, eX5_paidIn_50, eX5_paidIn_53, eX5_paidIn_55, eX5_paidIn_56, eX5_paidIn_59, eX5_paidIn_60, eX5_paidIn_61, eX5_paidIn_63, eX5_paidIn_64, eX5_paidIn_65, eX5_paidIn_66, eX5_paidIn_69, eX5_paidIn_70, eX5_paidIn_71, eX5_paidIn_75, eX5_paidIn_77, eX5_paidIn_80, eX5_paidIn_81, eX5_paidIn_84, eX5_paidIn_87, eX5_paidIn_88, eX5_paidIn_91, eX5_paidIn_93, eX5_paidIn_95, eX5_paidIn_98, eX5_paidIn_99, eX5_paidIn_100, eX5_paidIn_101, eX5_paidIn_104, eX5_paidIn_105, eX5_paidIn_108, eX5_paidIn_109, eX5_paidIn_112, eX5_paidIn_115, eX5_paidIn_116, eX5_paidIn_119, eX5_paidIn_122, eX5_paidIn_125, eX5_paidIn_126, eX5_paidIn_130, eX5_paidIn_133, eX5_paidIn_136, eX5_paidIn_137, eX5_paidIn_140, eX5_paidIn_142, eX5_paidIn_143, eX5_paidIn_146, eX5_paidIn_148, eX5_paidIn_149, eX5_paidIn_150, eX5_paidIn_153, eX5_paidIn_156, eX5_paidIn_157, one0, gk, gr, gj, gw, rv_some, ret_i, ret_n, Option.bind_some, List.cons_append, List.nil_append, z0, z1, zi, zj, i10, i01, row_s, row_row, true_or, or_true, eq_self, not_false_eq_true, not_true_eq_false, if_true, if_false, ite_not, Decidable.not_not, and_true, true_and, or_false, false_or, lm0 hM, lm1 hM, lm5 hM, lm3 hM, lm7 hM, r6, rw6, gqv, e1, e5, e6, nI_1]) s
  have h2 : pm_ev tb xl xs mX5_paidIn 128 [some (.ref 583), some (.int (nI r)), some (.int w), some (.int v), some (.int 0), l5] [] (pm_G F (row (row I 586 p) 584 s)) = _ := h1
  have e1 : (nI 539 < 539) = False := lt_f (i := 539) (n := 539) (by omega) (by omega)
  simp only [eX5_paidIn_0, eX5_paidIn_1, eX5_paidIn_2, eX5_paidIn_5, eX5_paidIn_8, eX5_paidIn_11, eX5_paidIn_12, eX5_paidIn_13, eX5_paidIn_14, eX5_paidIn_15, eX5_paidIn_18, eX5_paidIn_19, eX5_paidIn_22, eX5_paidIn_25, eX5_paidIn_26, eX5_paidIn_27, eX5_paidIn_29, eX5_paidIn_32, eX5_paidIn_35, eX5_paidIn_36, eX5_paidIn_39, eX5_paidIn_40, eX5_paidIn_41, eX5_paidIn_44, eX5_paidIn_45, eX5_paidIn_46, eX5_paidIn_47, eX5_paidIn_50, eX5_paidIn_53, eX5_paidIn_55, eX5_paidIn_56, eX5_paidIn_59, eX5_paidIn_60, eX5_paidIn_61, eX5_paidIn_63, eX5_paidIn_64, eX5_paidIn_65, eX5_paidIn_66, eX5_paidIn_69, eX5_paidIn_70, eX5_paidIn_71, eX5_paidIn_75, eX5_paidIn_77, eX5_paidIn_80, eX5_paidIn_81, eX5_paidIn_84, eX5_paidIn_87, eX5_paidIn_88, eX5_paidIn_91, eX5_paidIn_93, eX5_paidIn_95, eX5_paidIn_98, eX5_paidIn_99, eX5_paidIn_100, eX5_paidIn_101, eX5_paidIn_104, eX5_paidIn_105, eX5_paidIn_108, eX5_paidIn_109, eX5_paidIn_112, eX5_paidIn_115, eX5_paidIn_116, eX5_paidIn_119, eX5_paidIn_122, eX5_paidIn_125, eX5_paidIn_126, eX5_paidIn_130, eX5_paidIn_133, eX5_paidIn_136, eX5_paidIn_137, eX5_paidIn_140, eX5_paidIn_142, eX5_paidIn_143, eX5_paidIn_146, eX5_paidIn_148, eX5_paidIn_149, eX5_paidIn_150, eX5_paidIn_153, eX5_paidIn_156, eX5_paidIn_157, one0, gk, gr, gj, gw, rv_some, ret_i, ret_n, Option.bind_some, List.cons_append, List.nil_append, z0, z1, zi, zj, i10, i01, row_s, row_row, true_or, or_true, eq_self, not_false_eq_true, not_true_eq_false, if_true, if_false, ite_not, Decidable.not_not, and_true, true_and, or_false, false_or, h2]
  rw [eX5_paidIn_128]
  simp only [eX5_paidIn_0, eX5_paidIn_1, eX5_paidIn_2, eX5_paidIn_5, eX5_paidIn_8, eX5_paidIn_11, eX5_paidIn_12, eX5_paidIn_13, eX5_paidIn_14, eX5_paidIn_15, eX5_paidIn_18, eX5_paidIn_19, eX5_paidIn_22, eX5_paidIn_25, eX5_paidIn_26, eX5_paidIn_27, eX5_paidIn_29, eX5_paidIn_32, eX5_paidIn_35, eX5_paidIn_36, eX5_paidIn_39, eX5_paidIn_40, eX5_paidIn_41, eX5_paidIn_44, eX5_paidIn_45, eX5_paidIn_46, eX5_paidIn_47, eX5_paidIn_50, eX5_paidIn_53, eX5_paidIn_55, eX5_paidIn_56, eX5_paidIn_59, eX5_paidIn_60, eX5_paidIn_61, eX5_paidIn_63, eX5_paidIn_64, eX5_paidIn_65, eX5_paidIn_66, eX5_paidIn_69, eX5_paidIn_70, eX5_paidIn_71, eX5_paidIn_75, eX5_paidIn_77, eX5_paidIn_80, eX5_paidIn_81, eX5_paidIn_84, eX5_paidIn_87, eX5_paidIn_88, eX5_paidIn_91, eX5_paidIn_93, eX5_paidIn_95, eX5_paidIn_98, eX5_paidIn_99, eX5_paidIn_100, eX5_paidIn_101, eX5_paidIn_104, eX5_paidIn_105, eX5_paidIn_108, eX5_paidIn_109, eX5_paidIn_112, eX5_paidIn_115, eX5_paidIn_116, eX5_paidIn_119, eX5_paidIn_122, eX5_paidIn_125, eX5_paidIn_126, eX5_paidIn_130, eX5_paidIn_133, eX5_paidIn_136, eX5_paidIn_137, eX5_paidIn_140, eX5_paidIn_142, eX5_paidIn_143, eX5_paidIn_146, eX5_paidIn_148, eX5_paidIn_149, eX5_paidIn_150, eX5_paidIn_153, eX5_paidIn_156, eX5_paidIn_157, one0, gk, gr, gj, gw, rv_some, ret_i, ret_n, Option.bind_some, List.cons_append, List.nil_append, z0, z1, zi, zj, i10, i01, row_s, row_row, true_or, or_true, eq_self, not_false_eq_true, not_true_eq_false, if_true, if_false, ite_not, Decidable.not_not, and_true, true_and, or_false, false_or, lm0 hM, lm1 hM, lm5 hM, e1]
theorem X5_paidIn_ev (hM : LM F 583) (hI : Iv s nA nH nR) (hBd : Bd Rb Mb Nb s nA nH) (hRb : Rb + 1440000 < 100000000) (hMb : Mb + 1797120 < 1073741824) {r d : Nat} (hrR : r < nR) (h2 : rp s r 3 = 2) (hd : gp s 0 = nI d) (hd2 : d < 10000) : ∃ p s', pm_ev tb xl xs mX5_paidIn 0 [some (.ref 583), some (.int (nI r)), none, none, none, none] [] (pm_G F (row I 584 s)) = some (some (.int (pIn nA nR r 12 (90 - d % 90) s)), pm_G F (row (row I 586 p) 584 s')) ∧ ∀ k, k < 539 → s' k = s k := by
  have h6 := hI.1.1.2
  have h8 := hI.1.2.1.2
  have h40 := hI.1.2.2.1.2
  have hnR := hI.1.2.2.1.1
  have hr : r < 40 := by omega
  have ho : ¬ out (nI r) nR := in_n hrR (by omega)
  have fin : ∀ (p : Nat → Int32) (x : St), (∀ k, k < 539 → p k = s k) → ∀ k, k < 539 → lp (fun i (x : St) => upd x i (p i)) 0 539 x k = s k := by
    intro p x hp
    exact lp_inv (fun i (x : St) => ∀ k, k < i → x k = s k) (fun i (x : St) => upd x i (p i)) 539 (fun i x hi h k hk => by
      show upd x i (p i) k = s k
      unfold upd
      by_cases e : k = i
      · rw [if_pos e, e]; exact hp i hi
      · rw [if_neg e]; exact h k (by omega)) 539 0 x (by omega) (fun k hk => absurd hk (by omega))
  have key : ∀ n j (x : St) (p : Nat → Int32) (l5 : Option Value), j + n = 12 → Iv x nA nH nR → Bd (Rb + 120000 * j) (Mb + 149760 * j) Nb x nA nH → rp x r 3 = 2 → (∀ k, k < 539 → p k = s k) → ∃ s', pm_ev tb xl xs mX5_paidIn 73 [some (.ref 583), some (.int (nI r)), some (.int (nI (90 * (j + 1) - d % 90))), some (.int (-10009)), some (.int (nI j)), l5] [] (pm_G F (row (row I 586 p) 584 x)) = some (some (.int (pIn nA nR r n (90 * (j + 1) - d % 90) x)), pm_G F (row (row I 586 p) 584 s')) ∧ ∀ k, k < 539 → s' k = s k := by
    intro n
    induction n with
    | zero =>
      intro j x p l5 hj hx hb hst hp
      have e : (nI j < 12) = False := lt_f (n := 12) (by omega) (by omega)
      refine ⟨_, ?_, fin p x hp⟩
      rw [eX5_paidIn_73]
      simp only [eX5_paidIn_75, eX5_paidIn_77, eX5_paidIn_80, eX5_paidIn_81, eX5_paidIn_84, eX5_paidIn_87, eX5_paidIn_88, eX5_paidIn_91, eX5_paidIn_93, eX5_paidIn_95, eX5_paidIn_98, eX5_paidIn_99, eX5_paidIn_100, eX5_paidIn_101, eX5_paidIn_104, eX5_paidIn_105, eX5_paidIn_108, eX5_paidIn_109, eX5_paidIn_112, eX5_paidIn_115, eX5_paidIn_116, eX5_paidIn_119, eX5_paidIn_122, one0, gk, gr, gj, gw, rv_some, ret_i, ret_n, Option.bind_some, List.cons_append, List.nil_append, z0, z1, zi, zj, i10, i01, row_s, row_row, true_or, or_true, eq_self, not_false_eq_true, not_true_eq_false, if_true, if_false, ite_not, Decidable.not_not, and_true, true_and, or_false, false_or, e, X5_paidIn_out hM, pIn]
    | succ n ih =>
      intro j x p l5 hj hx hb hst hp
      have e : (nI j < 12) = True := lt_t (n := 12) (by omega) (by omega)
      have hq := beg_st hx hb (by omega) (by omega) hrR hst
      have n13 : ¬ (2 : Int32) = 3 := by decide
      by_cases hc : rp (begS x nA nR).1 r 3 = 3
      · have hn : 0 < (begS x nA nR).2 := by
          rcases hq with q | q
          · rw [q] at hc; exact absurd hc n13
          · exact q.2
        have nn : ¬ nI (90 * (j + 1) - d % 90) = -10009 := fun q => by
          have := congrArg Int32.toInt q
          rw [nI_toInt (by omega), show (-10009 : Int32).toInt = -10009 by decide] at this
          omega
        have e' : (nI (j + 1) < 12) = (j + 1 < 12) := lt_iff (n := 12) (by omega) (by omega)
        refine ⟨_, ?_, fin p (begS x nA nR).1 hp⟩
        rw [pIn_s, if_pos hc, eX5_paidIn_73]
        simp only [eX5_paidIn_75, eX5_paidIn_77, eX5_paidIn_80, eX5_paidIn_81, eX5_paidIn_84, eX5_paidIn_87, eX5_paidIn_88, eX5_paidIn_91, eX5_paidIn_93, eX5_paidIn_95, eX5_paidIn_98, eX5_paidIn_99, eX5_paidIn_100, eX5_paidIn_101, eX5_paidIn_104, eX5_paidIn_105, eX5_paidIn_108, eX5_paidIn_109, eX5_paidIn_112, eX5_paidIn_115, eX5_paidIn_116, eX5_paidIn_119, eX5_paidIn_122, one0, gk, gr, gj, gw, rv_some, ret_i, ret_n, Option.bind_some, List.cons_append, List.nil_append, z0, z1, zi, zj, i10, i01, row_s, row_row, true_or, or_true, eq_self, not_false_eq_true, not_true_eq_false, if_true, if_false, ite_not, Decidable.not_not, and_true, true_and, or_false, false_or, lm0 hM, lm1 hM, lm5 hM, e, X5_begins_ev hM hx.1, hn, X5_of_ev3 hM hr, hc, nI_1]
        rw [eX5_paidIn_73]
        by_cases h12 : j + 1 < 12
        · simp only [eX5_paidIn_75, eX5_paidIn_77, eX5_paidIn_80, eX5_paidIn_81, eX5_paidIn_84, eX5_paidIn_87, eX5_paidIn_88, eX5_paidIn_91, eX5_paidIn_93, eX5_paidIn_95, eX5_paidIn_98, eX5_paidIn_99, eX5_paidIn_100, eX5_paidIn_101, eX5_paidIn_104, eX5_paidIn_105, eX5_paidIn_108, eX5_paidIn_109, eX5_paidIn_112, eX5_paidIn_115, eX5_paidIn_116, eX5_paidIn_119, eX5_paidIn_122, one0, gk, gr, gj, gw, rv_some, ret_i, ret_n, Option.bind_some, List.cons_append, List.nil_append, z0, z1, zi, zj, i10, i01, row_s, row_row, true_or, or_true, eq_self, not_false_eq_true, not_true_eq_false, if_true, if_false, ite_not, Decidable.not_not, and_true, true_and, or_false, false_or, lm0 hM, lm1 hM, lm5 hM, e', h12, nn, X5_paidIn_out hM]
        · simp only [eX5_paidIn_75, eX5_paidIn_77, eX5_paidIn_80, eX5_paidIn_81, eX5_paidIn_84, eX5_paidIn_87, eX5_paidIn_88, eX5_paidIn_91, eX5_paidIn_93, eX5_paidIn_95, eX5_paidIn_98, eX5_paidIn_99, eX5_paidIn_100, eX5_paidIn_101, eX5_paidIn_104, eX5_paidIn_105, eX5_paidIn_108, eX5_paidIn_109, eX5_paidIn_112, eX5_paidIn_115, eX5_paidIn_116, eX5_paidIn_119, eX5_paidIn_122, one0, gk, gr, gj, gw, rv_some, ret_i, ret_n, Option.bind_some, List.cons_append, List.nil_append, z0, z1, zi, zj, i10, i01, row_s, row_row, true_or, or_true, eq_self, not_false_eq_true, not_true_eq_false, if_true, if_false, ite_not, Decidable.not_not, and_true, true_and, or_false, false_or, lm0 hM, lm1 hM, lm5 hM, e', h12, X5_paidIn_out hM]
      · have hw : rp (begS x nA nR).1 r 3 = 2 := by
          rcases hq with q | q
          · exact q
          · exact absurd q.1 hc
        have hb2 := (hb.begs hx (by omega) (by omega)).mono (Rb' := Rb + 120000 * (j + 1)) (Mb' := Mb + 149760 * (j + 1)) (Nb' := Nb) (by omega) (by omega) (Nat.le_refl _)
        obtain ⟨s', e4, hs'⟩ := ih (j + 1) (begS x nA nR).1 p (some (.int (begS x nA nR).2)) (by omega) hx.begs hb2 hw hp
        refine ⟨s', ?_, hs'⟩
        have ed : nI (90 * (j + 1) - d % 90) + 90 = nI (90 * (j + 1 + 1) - d % 90) := by
          rw [show (90 : Int32) = nI 90 from rfl, nI_add]
          exact congrArg nI (by omega)
        rw [pIn_s, if_neg hc, show 90 * (j + 1) - d % 90 + 90 = 90 * (j + 1 + 1) - d % 90 by omega, ← e4, eX5_paidIn_73]
        by_cases hn : 0 < (begS x nA nR).2
        · simp only [eX5_paidIn_75, eX5_paidIn_77, eX5_paidIn_80, eX5_paidIn_81, eX5_paidIn_84, eX5_paidIn_87, eX5_paidIn_88, eX5_paidIn_91, eX5_paidIn_93, eX5_paidIn_95, eX5_paidIn_98, eX5_paidIn_99, eX5_paidIn_100, eX5_paidIn_101, eX5_paidIn_104, eX5_paidIn_105, eX5_paidIn_108, eX5_paidIn_109, eX5_paidIn_112, eX5_paidIn_115, eX5_paidIn_116, eX5_paidIn_119, eX5_paidIn_122, one0, gk, gr, gj, gw, rv_some, ret_i, ret_n, Option.bind_some, List.cons_append, List.nil_append, z0, z1, zi, zj, i10, i01, row_s, row_row, true_or, or_true, eq_self, not_false_eq_true, not_true_eq_false, if_true, if_false, ite_not, Decidable.not_not, and_true, true_and, or_false, false_or, lm0 hM, lm1 hM, lm5 hM, e, X5_begins_ev hM hx.1, hn, X5_of_ev3 hM hr, hc, nI_1, ed]
        · simp only [eX5_paidIn_75, eX5_paidIn_77, eX5_paidIn_80, eX5_paidIn_81, eX5_paidIn_84, eX5_paidIn_87, eX5_paidIn_88, eX5_paidIn_91, eX5_paidIn_93, eX5_paidIn_95, eX5_paidIn_98, eX5_paidIn_99, eX5_paidIn_100, eX5_paidIn_101, eX5_paidIn_104, eX5_paidIn_105, eX5_paidIn_108, eX5_paidIn_109, eX5_paidIn_112, eX5_paidIn_115, eX5_paidIn_116, eX5_paidIn_119, eX5_paidIn_122, one0, gk, gr, gj, gw, rv_some, ret_i, ret_n, Option.bind_some, List.cons_append, List.nil_append, z0, z1, zi, zj, i10, i01, row_s, row_row, true_or, or_true, eq_self, not_false_eq_true, not_true_eq_false, if_true, if_false, ite_not, Decidable.not_not, and_true, true_and, or_false, false_or, lm0 hM, lm1 hM, lm5 hM, e, X5_begins_ev hM hx.1, hn, nI_1, ed]
  have h1 := lp_ev0 539 (fun i (p : Nat → Int32) => pm_ev tb xl xs mX5_paidIn 28 [some (.ref 583), some (.int (nI r)), some (.int (nI i)), none, none, none] [] (pm_G F (row (row I 586 p) 584 s))) (fun i (p : Nat → Int32) => upd p i (s i)) (fun i p hi => by
    have e1 : (nI i < 539) = True := lt_t (n := 539) hi (by omega)
    have e5 : vp_in (nI i) 539 := ix_n hi (by omega)
    have e6 : (nI i).toNatClampNeg = i := cl_n (by omega)
    show pm_ev tb xl xs mX5_paidIn 28 [some (.ref 583), some (.int (nI r)), some (.int (nI i)), none, none, none] [] (pm_G F (row (row I 586 p) 584 s)) = _
    rw [eX5_paidIn_28]
    simp only [eX5_paidIn_0, eX5_paidIn_1, eX5_paidIn_2, eX5_paidIn_5, eX5_paidIn_8, eX5_paidIn_11, eX5_paidIn_12, eX5_paidIn_13, eX5_paidIn_14, eX5_paidIn_15, eX5_paidIn_18, eX5_paidIn_19, eX5_paidIn_22, eX5_paidIn_25, eX5_paidIn_26, eX5_paidIn_27, eX5_paidIn_29, eX5_paidIn_32, eX5_paidIn_35, eX5_paidIn_36, eX5_paidIn_39, eX5_paidIn_40, eX5_paidIn_41, eX5_paidIn_44, eX5_paidIn_45, eX5_paidIn_46, eX5_paidIn_47, eX5_paidIn_50, eX5_paidIn_53, eX5_paidIn_55, eX5_paidIn_56, eX5_paidIn_59, eX5_paidIn_60, eX5_paidIn_61, eX5_paidIn_63, eX5_paidIn_64, eX5_paidIn_65, eX5_paidIn_66, eX5_paidIn_69, eX5_paidIn_70, eX5_paidIn_71, eX5_paidIn_75, eX5_paidIn_77, eX5_paidIn_80, eX5_paidIn_81, eX5_paidIn_84, eX5_paidIn_87, eX5_paidIn_88, eX5_paidIn_91, eX5_paidIn_93, eX5_paidIn_95, eX5_paidIn_98, eX5_paidIn_99, eX5_paidIn_100, eX5_paidIn_101, eX5_paidIn_104, eX5_paidIn_105, eX5_paidIn_108, eX5_paidIn_109, eX5_paidIn_112, eX5_paidIn_115, eX5_paidIn_116, eX5_paidIn_119, eX5_paidIn_122, eX5_paidIn_125, eX5_paidIn_126, eX5_paidIn_130, eX5_paidIn_133, eX5_paidIn_136, eX5_paidIn_137, eX5_paidIn_140, eX5_paidIn_142, eX5_paidIn_143, eX5_paidIn_146, eX5_paidIn_148, eX5_paidIn_149, eX5_paidIn_150, eX5_paidIn_153, eX5_paidIn_156, eX5_paidIn_157, one0, gk, gr, gj, gw, rv_some, ret_i, ret_n, Option.bind_some, List.cons_append, List.nil_append, z0, z1, zi, zj, i10, i01, row_s, row_row, true_or, or_true, eq_self, not_false_eq_true, not_true_eq_false, if_true, if_false, ite_not, Decidable.not_not, and_true, true_and, or_false, false_or, lm0 hM, lm1 hM, lm5 hM, lm3 hM, lm7 hM, r6, rw6, gqv, e1, e5, e6, nI_1]) (I 586)
  have hP := lp_inv (fun i (p : Nat → Int32) => ∀ k, k < i → p k = s k) (fun i (p : Nat → Int32) => upd p i (s i)) 539 (fun i p hi h k hk => by
    show upd p i (s i) k = s k
    unfold upd
    by_cases e : k = i
    · rw [if_pos e, e]
    · rw [if_neg e]; exact h k (by omega)) 539 0 (I 586) (by omega) (fun k hk => absurd hk (by omega))
  generalize lp (fun i (p : Nat → Int32) => upd p i (s i)) 0 539 (I 586) = p at h1 hP
  obtain ⟨s', e4, hs'⟩ := key 12 0 s p none (by omega) hI hBd h2 hP
  refine ⟨p, s', ?_, hs'⟩
  rw [row_self] at h1
  have e1 : (nI 539 < 539) = False := lt_f (i := 539) (n := 539) (by omega) (by omega)
  have ed : (90 : Int32) - (nI d - nI d / 90 * 90) = nI (90 * (0 + 1) - d % 90) := by
    rw [show (90 : Int32) = nI 90 from rfl, pk_rem (by omega) (by omega) (by omega), pk_sub (by omega)]
  have h1' : pm_ev tb xl xs mX5_paidIn 28 [some (.ref 583), some (.int (nI r)), some (.int 0), none, none, none] [] (pm_G F (row I 584 s)) = _ := h1
  simp only [eX5_paidIn_0, eX5_paidIn_1, eX5_paidIn_2, eX5_paidIn_5, eX5_paidIn_8, eX5_paidIn_11, eX5_paidIn_12, eX5_paidIn_13, eX5_paidIn_14, eX5_paidIn_15, eX5_paidIn_18, eX5_paidIn_19, eX5_paidIn_22, eX5_paidIn_25, eX5_paidIn_26, eX5_paidIn_27, eX5_paidIn_29, eX5_paidIn_32, eX5_paidIn_35, eX5_paidIn_36, eX5_paidIn_39, eX5_paidIn_40, eX5_paidIn_41, eX5_paidIn_44, eX5_paidIn_45, eX5_paidIn_46, eX5_paidIn_47, eX5_paidIn_50, eX5_paidIn_53, eX5_paidIn_55, eX5_paidIn_56, eX5_paidIn_59, eX5_paidIn_60, eX5_paidIn_61, eX5_paidIn_63, eX5_paidIn_64, eX5_paidIn_65, eX5_paidIn_66, eX5_paidIn_69, eX5_paidIn_70, eX5_paidIn_71, eX5_paidIn_75, eX5_paidIn_77, eX5_paidIn_80, eX5_paidIn_81, eX5_paidIn_84, eX5_paidIn_87, eX5_paidIn_88, eX5_paidIn_91, eX5_paidIn_93, eX5_paidIn_95, eX5_paidIn_98, eX5_paidIn_99, eX5_paidIn_100, eX5_paidIn_101, eX5_paidIn_104, eX5_paidIn_105, eX5_paidIn_108, eX5_paidIn_109, eX5_paidIn_112, eX5_paidIn_115, eX5_paidIn_116, eX5_paidIn_119, eX5_paidIn_122, eX5_paidIn_125, eX5_paidIn_126, eX5_paidIn_130, eX5_paidIn_133, eX5_paidIn_136, eX5_paidIn_137, eX5_paidIn_140, eX5_paidIn_142, eX5_paidIn_143, eX5_paidIn_146, eX5_paidIn_148, eX5_paidIn_149, eX5_paidIn_150, eX5_paidIn_153, eX5_paidIn_156, eX5_paidIn_157, one0, gk, gr, gj, gw, rv_some, ret_i, ret_n, Option.bind_some, List.cons_append, List.nil_append, z0, z1, zi, zj, i10, i01, row_s, row_row, true_or, or_true, eq_self, not_false_eq_true, not_true_eq_false, if_true, if_false, ite_not, Decidable.not_not, and_true, true_and, or_false, false_or, lm0 hM, lm1 hM, lm5 hM, X5_of_ev0 hM, X5_of_ev1 hM, X5_of_ev2 hM, X5_of_ev3 hM, X5_of_ev4 hM, X5_of_ev5 hM, X5_of_ev6 hM, X5_of_ev7 hM, X5_of_ev8 hM, X5_of_ev9 hM, X5_of_ev10 hM, X5_of_ev11 hM, hr, X5_isReport_ev hM hnR (by omega), ho, h2, h1']
  rw [eX5_paidIn_28]
  simp only [eX5_paidIn_0, eX5_paidIn_1, eX5_paidIn_2, eX5_paidIn_5, eX5_paidIn_8, eX5_paidIn_11, eX5_paidIn_12, eX5_paidIn_13, eX5_paidIn_14, eX5_paidIn_15, eX5_paidIn_18, eX5_paidIn_19, eX5_paidIn_22, eX5_paidIn_25, eX5_paidIn_26, eX5_paidIn_27, eX5_paidIn_29, eX5_paidIn_32, eX5_paidIn_35, eX5_paidIn_36, eX5_paidIn_39, eX5_paidIn_40, eX5_paidIn_41, eX5_paidIn_44, eX5_paidIn_45, eX5_paidIn_46, eX5_paidIn_47, eX5_paidIn_50, eX5_paidIn_53, eX5_paidIn_55, eX5_paidIn_56, eX5_paidIn_59, eX5_paidIn_60, eX5_paidIn_61, eX5_paidIn_63, eX5_paidIn_64, eX5_paidIn_65, eX5_paidIn_66, eX5_paidIn_69, eX5_paidIn_70, eX5_paidIn_71, eX5_paidIn_75, eX5_paidIn_77, eX5_paidIn_80, eX5_paidIn_81, eX5_paidIn_84, eX5_paidIn_87, eX5_paidIn_88, eX5_paidIn_91, eX5_paidIn_93, eX5_paidIn_95, eX5_paidIn_98, eX5_paidIn_99, eX5_paidIn_100, eX5_paidIn_101, eX5_paidIn_104, eX5_paidIn_105, eX5_paidIn_108, eX5_paidIn_109, eX5_paidIn_112, eX5_paidIn_115, eX5_paidIn_116, eX5_paidIn_119, eX5_paidIn_122, eX5_paidIn_125, eX5_paidIn_126, eX5_paidIn_130, eX5_paidIn_133, eX5_paidIn_136, eX5_paidIn_137, eX5_paidIn_140, eX5_paidIn_142, eX5_paidIn_143, eX5_paidIn_146, eX5_paidIn_148, eX5_paidIn_149, eX5_paidIn_150, eX5_paidIn_153, eX5_paidIn_156, eX5_paidIn_157, one0, gk, gr, gj, gw, rv_some, ret_i, ret_n, Option.bind_some, List.cons_append, List.nil_append, z0, z1, zi, zj, i10, i01, row_s, row_row, true_or, or_true, eq_self, not_false_eq_true, not_true_eq_false, if_true, if_false, ite_not, Decidable.not_not, and_true, true_and, or_false, false_or, lm0 hM, lm1 hM, lm5 hM, ixG0, ixG1, ixG2, ixG3, ixG4, ixG5, ixG6, ixG7, ixG8, clG0, clG1, clG2, clG3, clG4, clG5, clG6, clG7, clG8, rdG0, rdG1, rdG2, rdG3, rdG4, rdG5, rdG6, rdG7, rdG8, wrG0, wrG1, wrG2, wrG3, wrG4, wrG5, wrG6, wrG7, wrG8, e1, hd, d90, ed]
  exact e4
theorem op_paidIn (hN : N ≤ 600) (hD : LD F) (hM : LM F 583) (hF : Full N I) (v : Int32) : Step F N I (fun M => pm_ev tb xl xs mX4_paidIn 0 [some (.ref 0), some (.int v), none, none] [] M) (fun M => pm_ev tb xl xs mX5_paidIn 0 [some (.ref 583), some (.int v), none, none, none, none] [] M) := by
  have hFull := hF
  obtain ⟨n, m, H, nA, nH, nR, hR, hFI, hC, hMH⟩ := hF
  generalize hs : I 584 = s at hR hFI
  have hB := ldB hD
  have h6 := hFI.1.1.1.2
  have h8 := hFI.1.1.2.1.2
  have h40 := hFI.1.1.2.2.1.2
  have hnA := hFI.1.1.1.1
  have hnH := hFI.1.1.2.1.1
  have hnR := hFI.1.1.2.2.1.1
  have hn8 := hC.2.2.2.1
  have qA : I 1 3 = nI nA := (rbg3 hR).trans hnA
  have qH : I 1 4 = nI nH := (rbg4 hR).trans hnH
  have qR : I 1 5 = nI nR := (rbg5 hR).trans hnR
  have eI : row I 584 s = I := by rw [← hs]; exact row_self
  have hrb := hFI.rb
  by_cases ho : out v nR
  · refine same (v := -10001) hFull ?_ ?_
    · simp only [eX4_paidIn_0, eX4_paidIn_1, eX4_paidIn_4, eX4_paidIn_5, eX4_paidIn_8, eX4_paidIn_11, eX4_paidIn_14, eX4_paidIn_15, eX4_paidIn_16, eX4_paidIn_19, eX4_paidIn_22, eX4_paidIn_23, eX4_paidIn_24, eX4_paidIn_27, eX4_paidIn_28, eX4_paidIn_31, eX4_paidIn_34, eX4_paidIn_35, eX4_paidIn_36, eX4_paidIn_39, eX4_paidIn_40, eX4_paidIn_43, eX4_paidIn_46, eX4_paidIn_47, eX4_paidIn_50, eX4_paidIn_53, eX4_paidIn_55, eX4_paidIn_56, eX4_paidIn_57, eX4_paidIn_58, eX4_paidIn_60, eX4_paidIn_62, eX4_paidIn_65, eX4_paidIn_66, eX4_paidIn_69, eX4_paidIn_72, eX4_paidIn_73, eX4_paidIn_74, eX4_paidIn_77, eX4_paidIn_80, eX4_paidIn_81, eX4_paidIn_82, eX4_paidIn_85, eX4_paidIn_86, eX4_paidIn_89, eX4_paidIn_90, eX4_paidIn_91, eX4_paidIn_92, eX4_paidIn_94, eX4_paidIn_95, eX4_paidIn_96, eX4_paidIn_99, eX4_paidIn_102, eX4_paidIn_103, eX4_paidIn_104, eX4_paidIn_107, eX4_paidIn_110, eX4_paidIn_113, one0, and_false, false_and, gk, gr, gi, gs, rv_some, ret_i, ret_n, Option.bind_some, List.cons_append, List.nil_append, z0, z1, zi, zj, i10, i01, true_or, or_true, eq_self, not_false_eq_true, not_true_eq_false, if_true, if_false, ite_not, Decidable.not_not, and_true, true_and, or_false, false_or, Nat.reduceLeDiff, Nat.reduceMod, Nat.reduceEqDiff, ld0 hD, ld1 hD, ld2 hD, ld3 hD, ld4 hD, ld5 hD, ld6 hD, lb0 (ldB hD), lb1 (ldB hD), lb2 (ldB hD), lb3 (ldB hD), lb4 (ldB hD), lb5 (ldB hD), lb6 (ldB hD), X1_hasReport_ev hB qR (by omega), ho]
    · rw [← eI]
      simp only [eX5_paidIn_0, eX5_paidIn_1, eX5_paidIn_2, eX5_paidIn_5, eX5_paidIn_8, eX5_paidIn_11, eX5_paidIn_12, eX5_paidIn_13, eX5_paidIn_14, eX5_paidIn_15, eX5_paidIn_18, eX5_paidIn_19, eX5_paidIn_22, eX5_paidIn_25, eX5_paidIn_26, eX5_paidIn_27, eX5_paidIn_29, eX5_paidIn_32, eX5_paidIn_35, eX5_paidIn_36, eX5_paidIn_39, eX5_paidIn_40, eX5_paidIn_41, eX5_paidIn_44, eX5_paidIn_45, eX5_paidIn_46, eX5_paidIn_47, eX5_paidIn_50, eX5_paidIn_53, eX5_paidIn_55, eX5_paidIn_56, eX5_paidIn_59, eX5_paidIn_60, eX5_paidIn_61, eX5_paidIn_63, eX5_paidIn_64, eX5_paidIn_65, eX5_paidIn_66, eX5_paidIn_69, eX5_paidIn_70, eX5_paidIn_71, eX5_paidIn_75, eX5_paidIn_77, eX5_paidIn_80, eX5_paidIn_81, eX5_paidIn_84, eX5_paidIn_87, eX5_paidIn_88, eX5_paidIn_91, eX5_paidIn_93, eX5_paidIn_95, eX5_paidIn_98, eX5_paidIn_99, eX5_paidIn_100, eX5_paidIn_101, eX5_paidIn_104, eX5_paidIn_105, eX5_paidIn_108, eX5_paidIn_109, eX5_paidIn_112, eX5_paidIn_115, eX5_paidIn_116, eX5_paidIn_119, eX5_paidIn_122, eX5_paidIn_125, eX5_paidIn_126, eX5_paidIn_130, eX5_paidIn_133, eX5_paidIn_136, eX5_paidIn_137, eX5_paidIn_140, eX5_paidIn_142, eX5_paidIn_143, eX5_paidIn_146, eX5_paidIn_148, eX5_paidIn_149, eX5_paidIn_150, eX5_paidIn_153, eX5_paidIn_156, eX5_paidIn_157, one0, gk, gr, gj, gw, rv_some, ret_i, ret_n, Option.bind_some, List.cons_append, List.nil_append, z0, z1, zi, zj, i10, i01, row_s, row_row, true_or, or_true, eq_self, not_false_eq_true, not_true_eq_false, if_true, if_false, ite_not, Decidable.not_not, and_true, true_and, or_false, false_or, lm0 hM, lm1 hM, lm5 hM, X5_isReport_ev hM hnR (by omega), ho]
  · obtain ⟨r, hrR, rfl⟩ := vp_in_of ho (by omega)
    have hr : r < 40 := by omega
    by_cases h2 : rp s r 3 = 2
    · obtain ⟨d, hd, hd0, -⟩ := vin hFI.2.1.1 (by omega)
      obtain ⟨J, e1, hFJ⟩ := X4_paidIn_ev (xl := xl) (xs := xs) hD hR hFI.1 hrR h2 hd0 hd
      obtain ⟨p, s', e2, hs'⟩ := X5_paidIn_ev (xl := xl) (xs := xs) (F := F) (I := J) hM hFI.1 hFI.2 (by omega) (by omega) hrR h2 hd0 hd
      have e3 : row J 584 s = J := by rw [← hs, ← hFJ 584 (by omega)]; exact row_self
      rw [e3] at e2
      refine ⟨_, J, row (row J 586 p) 584 s', e1, e2, (hFull.mono (Nat.le_succ N)).off2 (fun k hk => ?_) (fun k hk => ?_)⟩
      · rw [row_s, hs]; exact hs' k hk
      · rw [row_n (by omega), row_n (by omega)]; exact hFJ k (by omega)
    · refine same (v := -10002) hFull ?_ ?_
      · simp only [eX4_paidIn_0, eX4_paidIn_1, eX4_paidIn_4, eX4_paidIn_5, eX4_paidIn_8, eX4_paidIn_11, eX4_paidIn_14, eX4_paidIn_15, eX4_paidIn_16, eX4_paidIn_19, eX4_paidIn_22, eX4_paidIn_23, eX4_paidIn_24, eX4_paidIn_27, eX4_paidIn_28, eX4_paidIn_31, eX4_paidIn_34, eX4_paidIn_35, eX4_paidIn_36, eX4_paidIn_39, eX4_paidIn_40, eX4_paidIn_43, eX4_paidIn_46, eX4_paidIn_47, eX4_paidIn_50, eX4_paidIn_53, eX4_paidIn_55, eX4_paidIn_56, eX4_paidIn_57, eX4_paidIn_58, eX4_paidIn_60, eX4_paidIn_62, eX4_paidIn_65, eX4_paidIn_66, eX4_paidIn_69, eX4_paidIn_72, eX4_paidIn_73, eX4_paidIn_74, eX4_paidIn_77, eX4_paidIn_80, eX4_paidIn_81, eX4_paidIn_82, eX4_paidIn_85, eX4_paidIn_86, eX4_paidIn_89, eX4_paidIn_90, eX4_paidIn_91, eX4_paidIn_92, eX4_paidIn_94, eX4_paidIn_95, eX4_paidIn_96, eX4_paidIn_99, eX4_paidIn_102, eX4_paidIn_103, eX4_paidIn_104, eX4_paidIn_107, eX4_paidIn_110, eX4_paidIn_113, one0, and_false, false_and, gk, gr, gi, gs, rv_some, ret_i, ret_n, Option.bind_some, List.cons_append, List.nil_append, z0, z1, zi, zj, i10, i01, true_or, or_true, eq_self, not_false_eq_true, not_true_eq_false, if_true, if_false, ite_not, Decidable.not_not, and_true, true_and, or_false, false_or, Nat.reduceLeDiff, Nat.reduceMod, Nat.reduceEqDiff, ld0 hD, ld1 hD, ld2 hD, ld3 hD, ld4 hD, ld5 hD, ld6 hD, lb0 (ldB hD), lb1 (ldB hD), lb2 (ldB hD), lb3 (ldB hD), lb4 (ldB hD), lb5 (ldB hD), lb6 (ldB hD), lbr hB hr, lbr2 hB hr, ix40 hr, cl40 hr, rbr3 hR hrR, X1_hasReport_ev hB qR (by omega), ho, h2]
      · rw [← eI]
        simp only [eX5_paidIn_0, eX5_paidIn_1, eX5_paidIn_2, eX5_paidIn_5, eX5_paidIn_8, eX5_paidIn_11, eX5_paidIn_12, eX5_paidIn_13, eX5_paidIn_14, eX5_paidIn_15, eX5_paidIn_18, eX5_paidIn_19, eX5_paidIn_22, eX5_paidIn_25, eX5_paidIn_26, eX5_paidIn_27, eX5_paidIn_29, eX5_paidIn_32, eX5_paidIn_35, eX5_paidIn_36, eX5_paidIn_39, eX5_paidIn_40, eX5_paidIn_41, eX5_paidIn_44, eX5_paidIn_45, eX5_paidIn_46, eX5_paidIn_47, eX5_paidIn_50, eX5_paidIn_53, eX5_paidIn_55, eX5_paidIn_56, eX5_paidIn_59, eX5_paidIn_60, eX5_paidIn_61, eX5_paidIn_63, eX5_paidIn_64, eX5_paidIn_65, eX5_paidIn_66, eX5_paidIn_69, eX5_paidIn_70, eX5_paidIn_71, eX5_paidIn_75, eX5_paidIn_77, eX5_paidIn_80, eX5_paidIn_81, eX5_paidIn_84, eX5_paidIn_87, eX5_paidIn_88, eX5_paidIn_91, eX5_paidIn_93, eX5_paidIn_95, eX5_paidIn_98, eX5_paidIn_99, eX5_paidIn_100, eX5_paidIn_101, eX5_paidIn_104, eX5_paidIn_105, eX5_paidIn_108, eX5_paidIn_109, eX5_paidIn_112, eX5_paidIn_115, eX5_paidIn_116, eX5_paidIn_119, eX5_paidIn_122, eX5_paidIn_125, eX5_paidIn_126, eX5_paidIn_130, eX5_paidIn_133, eX5_paidIn_136, eX5_paidIn_137, eX5_paidIn_140, eX5_paidIn_142, eX5_paidIn_143, eX5_paidIn_146, eX5_paidIn_148, eX5_paidIn_149, eX5_paidIn_150, eX5_paidIn_153, eX5_paidIn_156, eX5_paidIn_157, one0, gk, gr, gj, gw, rv_some, ret_i, ret_n, Option.bind_some, List.cons_append, List.nil_append, z0, z1, zi, zj, i10, i01, row_s, row_row, true_or, or_true, eq_self, not_false_eq_true, not_true_eq_false, if_true, if_false, ite_not, Decidable.not_not, and_true, true_and, or_false, false_or, lm0 hM, lm1 hM, lm5 hM, X5_of_ev0 hM, X5_of_ev1 hM, X5_of_ev2 hM, X5_of_ev3 hM, X5_of_ev4 hM, X5_of_ev5 hM, X5_of_ev6 hM, X5_of_ev7 hM, X5_of_ev8 hM, X5_of_ev9 hM, X5_of_ev10 hM, X5_of_ev11 hM, hr, X5_isReport_ev hM hnR (by omega), ho, h2]
end PIN
