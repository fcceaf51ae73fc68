/-! the class's methods that write: Books -/
section CLS2
variable {xl : Nat} {xs : Nat → Int32} {F : pm_F} {I : Nat → Nat → Int32} {o : Nat} {s : St} {nA nH nR : Nat}
/-- a call that leaves some memory of the kind -/
theorem bindE {e : Option (Option Value × pm_H)} {f : Option Value × pm_H → Option (Option Value × pm_H)} {r : Option Value} {P Q : (Nat → Nat → Int32) → Prop} {w : Option Value} (h : ∃ J, e = some (r, pm_G F J) ∧ P J) (k : ∀ J, P J → ∃ I', f (r, pm_G F J) = some (w, pm_G F I') ∧ Q I') : ∃ I', e.bind f = some (w, pm_G F I') ∧ Q I' := by
  obtain ⟨J, h1, h2⟩ := h
  rw [h1]
  exact k J h2
theorem X3_makeNew_ev (hB : LB F o) {r : Nat} (hr : r < 40) : pm_ev tb xl xs mX3_makeNew 0 [some (.ref (o + 18 + r))] [] (pm_G F I) = some (none, pm_G F (pm_u2 (pm_u2 (pm_u2 (pm_u2 (pm_u2 (pm_u2 (pm_u2 (pm_u2 I (o + 18 + r) 3 0) (o + 18 + r) 4 0) (o + 18 + r) 5 (-10009)) (o + 18 + r) 6 0) (o + 18 + r) 7 0) (o + 18 + r) 9 0) (o + 18 + r) 10 0) (o + 18 + r) 11 0)) := by
  simp only [eX3_makeNew_0, eX3_makeNew_1, eX3_makeNew_2, eX3_makeNew_5, eX3_makeNew_6, eX3_makeNew_7, eX3_makeNew_10, eX3_makeNew_11, eX3_makeNew_14, eX3_makeNew_17, eX3_makeNew_18, eX3_makeNew_19, eX3_makeNew_22, eX3_makeNew_23, eX3_makeNew_24, eX3_makeNew_27, eX3_makeNew_28, eX3_makeNew_29, eX3_makeNew_32, eX3_makeNew_33, eX3_makeNew_34, eX3_makeNew_37, eX3_makeNew_38, eX3_makeNew_39, eX3_makeNew_42, one0, and_false, false_and, gk, gr, gi, gs, rv_some, ret_i, ret_n, Option.bind_some, List.cons_append, List.nil_append, z0, z1, zi, zj, i10, i01, true_or, or_true, eq_self, not_false_eq_true, not_true_eq_false, if_true, if_false, ite_not, Decidable.not_not, and_true, true_and, or_false, false_or, Nat.reduceLeDiff, Nat.reduceMod, Nat.reduceEqDiff, lbr hB hr, lbr2 hB hr, ix40 hr, cl40 hr]
/-- what makeNew does to the row -/
def newS (s : St) (r : Nat) : St := sR (sR (sR (sR (sR (sR (sR (sR s r 3 0) r 4 0) r 5 (-10009)) r 6 0) r 7 0) r 10 0) r 11 0) r 9 0
theorem RB.newS (h : RB I o s nA nH nR) (h6 : nA ≤ 6) (h8 : nH ≤ 8) (h40 : nR ≤ 40) {r : Nat} (hr : r < 40) : RB (pm_u2 (pm_u2 (pm_u2 (pm_u2 (pm_u2 (pm_u2 (pm_u2 (pm_u2 I (o + 18 + r) 3 0) (o + 18 + r) 4 0) (o + 18 + r) 5 (-10009)) (o + 18 + r) 6 0) (o + 18 + r) 7 0) (o + 18 + r) 9 0) (o + 18 + r) 10 0) (o + 18 + r) 11 0) o (newS s r) nA nH nR :=
  (((((((h.wr3 h6 h8 h40 hr).wr4 h6 h8 h40 hr).wr5 h6 h8 h40 hr).wr6 h6 h8 h40 hr).wr7 h6 h8 h40 hr).wr9 h6 h8 h40 hr).wr10 h6 h8 h40 hr).wr11 h6 h8 h40 hr
theorem Fr.newS {I1 : Nat → Nat → Int32} (h : Fr I I1 o) {r : Nat} (hr : r < 40) : Fr I (pm_u2 (pm_u2 (pm_u2 (pm_u2 (pm_u2 (pm_u2 (pm_u2 (pm_u2 I1 (o + 18 + r) 3 0) (o + 18 + r) 4 0) (o + 18 + r) 5 (-10009)) (o + 18 + r) 6 0) (o + 18 + r) 7 0) (o + 18 + r) 9 0) (o + 18 + r) 10 0) (o + 18 + r) 11 0) o := by
  have hk : o ≤ o + 18 + r ∧ o + 18 + r < o + 58 := by omega
  exact (((((((h.u2 hk).u2 hk).u2 hk).u2 hk).u2 hk).u2 hk).u2 hk).u2 hk
theorem sR_id {r j : Nat} {v : Int32} (h : rp s r j = v) : sR s r j v = s := by
  subst h
  funext k
  unfold sR upd rp
  split
  · rename_i e; rw [e]
  · rfl
/-- of a folded report the rest is 0 already -/
theorem newS_unf {r : Nat} (h : Rw s r) (h5 : rp s r 3 = 5) {r' : Nat} (e : r' = r) : newS s r = sR (sR s r 3 0) r 5 (-10009) := by
  obtain ⟨a, b, c, d, f⟩ := h
  obtain ⟨z4, z6, z7, z9, z10, z11⟩ := d (Or.inr h5)
  unfold newS
  rw [sR_id (s := sR s r 3 0) (j := 4) (by rw [rp_sR (by decide) (by decide), if_neg (by omega)]; exact z4)]
  rw [sR_id (s := sR (sR s r 3 0) r 5 (-10009)) (j := 6) (by rw [rp_sR (by decide) (by decide), if_neg (by omega), rp_sR (by decide) (by decide), if_neg (by omega)]; exact z6)]
  rw [sR_id (s := sR (sR s r 3 0) r 5 (-10009)) (j := 7) (by rw [rp_sR (by decide) (by decide), if_neg (by omega), rp_sR (by decide) (by decide), if_neg (by omega)]; exact z7)]
  rw [sR_id (s := sR (sR s r 3 0) r 5 (-10009)) (j := 10) (by rw [rp_sR (by decide) (by decide), if_neg (by omega), rp_sR (by decide) (by decide), if_neg (by omega)]; exact z10)]
  rw [sR_id (s := sR (sR s r 3 0) r 5 (-10009)) (j := 11) (by rw [rp_sR (by decide) (by decide), if_neg (by omega), rp_sR (by decide) (by decide), if_neg (by omega)]; exact z11)]
  rw [sR_id (s := sR (sR s r 3 0) r 5 (-10009)) (j := 9) (by rw [rp_sR (by decide) (by decide), if_neg (by omega), rp_sR (by decide) (by decide), if_neg (by omega)]; exact z9)]
theorem X1_releaseFolded_ev (hB : LB F o) (hR : RB I o s nA nH nR) (hT : Iv s nA nH nR) {k : Nat} (hk : k < 1000) : ∃ I', pm_ev tb xl xs mX1_releaseFolded 0 [some (.ref o), some (.int (nI k)), none, none] [] (pm_G F I) = some (some (.int (unfS s nR k).2), pm_G F I') ∧ RB I' o (unfS s nR k).1 nA nH nR ∧ Fr I I' o := by
  have h6 := hT.1.1.2
  have h8 := hT.1.2.1.2
  have h40 := hT.1.2.2.1.2
  have key : ∀ n i (x : St × Int32) (J : Nat → Nat → Int32), i + n = nR → RB J o x.1 nA nH nR → Iv x.1 nA nH nR → Fr I J o → ∃ I', pm_ev tb xl xs mX1_releaseFolded 4 [some (.ref o), some (.int (nI k)), some (.int x.2), some (.int (nI i))] [] (pm_G F J) = some (some (.int (lp (unfG k) i n x).2), pm_G F I') ∧ RB I' o (lp (unfG k) i n x).1 nA nH nR ∧ Fr I I' o := by
    intro n
    induction n with
    | zero =>
      intro i x J hi hR hT hF
      obtain rfl : i = nR := by omega
      have hn := hT.1.2.2.1.1
      refine ⟨J, ?_, hR, hF⟩
      rw [eX1_releaseFolded_4]
      simp only [eX1_releaseFolded_0, eX1_releaseFolded_1, eX1_releaseFolded_2, eX1_releaseFolded_3, eX1_releaseFolded_5, eX1_releaseFolded_6, eX1_releaseFolded_9, eX1_releaseFolded_12, eX1_releaseFolded_13, eX1_releaseFolded_16, eX1_releaseFolded_17, eX1_releaseFolded_18, eX1_releaseFolded_21, eX1_releaseFolded_22, eX1_releaseFolded_25, eX1_releaseFolded_26, eX1_releaseFolded_29, eX1_releaseFolded_30, eX1_releaseFolded_31, eX1_releaseFolded_34, eX1_releaseFolded_37, eX1_releaseFolded_40, eX1_releaseFolded_43, eX1_releaseFolded_44, one0, and_false, false_and, gk, gr, gi, gs, rv_some, ret_i, ret_n, Option.bind_some, List.cons_append, List.nil_append, z0, z1, zi, zj, i10, i01, true_or, or_true, eq_self, not_false_eq_true, not_true_eq_false, if_true, if_false, ite_not, Decidable.not_not, and_true, true_and, or_false, false_or, Nat.reduceLeDiff, Nat.reduceMod, Nat.reduceEqDiff, lb0 hB, lb1 hB, lb2 hB, lb3 hB, lb4 hB, lb5 hB, lb6 hB, rbg3 hR, rbg4 hR, rbg5 hR, rbg6 hR, rbg7 hR, rbg8 hR, rbg9 hR, rbg10 hR, rbg11 hR, hn, lt_f (Nat.le_refl i) (by omega), lp]
    | succ n ih =>
      intro i x J hi hR hT hF
      have hn := hT.1.2.2.1.1
      have hrR : i < nR := by omega
      have hr : i < 40 := by omega
      rw [eX1_releaseFolded_4]
      simp only [eX1_releaseFolded_0, eX1_releaseFolded_1, eX1_releaseFolded_2, eX1_releaseFolded_3, eX1_releaseFolded_5, eX1_releaseFolded_6, eX1_releaseFolded_9, eX1_releaseFolded_12, eX1_releaseFolded_13, eX1_releaseFolded_16, eX1_releaseFolded_17, eX1_releaseFolded_18, eX1_releaseFolded_21, eX1_releaseFolded_22, eX1_releaseFolded_25, eX1_releaseFolded_26, eX1_releaseFolded_29, eX1_releaseFolded_30, eX1_releaseFolded_31, eX1_releaseFolded_34, eX1_releaseFolded_37, eX1_releaseFolded_40, eX1_releaseFolded_43, eX1_releaseFolded_44, one0, and_false, false_and, gk, gr, gi, gs, rv_some, ret_i, ret_n, Option.bind_some, List.cons_append, List.nil_append, z0, z1, zi, zj, i10, i01, true_or, or_true, eq_self, not_false_eq_true, not_true_eq_false, if_true, if_false, ite_not, Decidable.not_not, and_true, true_and, or_false, false_or, Nat.reduceLeDiff, Nat.reduceMod, Nat.reduceEqDiff, lb0 hB, lb1 hB, lb2 hB, lb3 hB, lb4 hB, lb5 hB, lb6 hB, lbr hB hr, lbr2 hB hr, ix40 hr, cl40 hr, rbg3 hR, rbg4 hR, rbg5 hR, rbg6 hR, rbg7 hR, rbg8 hR, rbg9 hR, rbg10 hR, rbg11 hR, rbr0 hR hrR, rbr1 hR hrR, rbr2 hR hrR, rbr3 hR hrR, rbr4 hR hrR, rbr5 hR hrR, rbr6 hR hrR, rbr7 hR hrR, rbr8 hR hrR, rbr9 hR hrR, rbr10 hR hrR, rbr11 hR hrR, hn, lt_t hrR (by omega), nI_1, into_iff (hT.2 i hrR).2.2.1 hk, X3_makeNew_ev hB hr, lp]
      by_cases hc : under x.1 k i
      · have e : unfG k i x = (sR (sR x.1 i 3 0) i 5 (-10009), x.2 + 1) := if_pos hc
        have h1 := Iv.unf (r := k) hrR hT
        rw [e] at h1 ⊢
        rw [if_pos hc]
        refine ih (i + 1) (sR (sR x.1 i 3 0) i 5 (-10009), x.2 + 1) _ (by omega) ?_ h1 (hF.newS hr)
        have := hR.newS h6 h8 h40 hr
        rw [newS_unf (hT.2 i hrR) hc.1 rfl] at this
        exact this
      · have e : unfG k i x = x := if_neg hc
        rw [e]
        rw [if_neg hc]
        exact ih (i + 1) x J (by omega) hR hT hF
  simp only [eX1_releaseFolded_0, eX1_releaseFolded_1, eX1_releaseFolded_2, eX1_releaseFolded_3, eX1_releaseFolded_5, eX1_releaseFolded_6, eX1_releaseFolded_9, eX1_releaseFolded_12, eX1_releaseFolded_13, eX1_releaseFolded_16, eX1_releaseFolded_17, eX1_releaseFolded_18, eX1_releaseFolded_21, eX1_releaseFolded_22, eX1_releaseFolded_25, eX1_releaseFolded_26, eX1_releaseFolded_29, eX1_releaseFolded_30, eX1_releaseFolded_31, eX1_releaseFolded_34, eX1_releaseFolded_37, eX1_releaseFolded_40, eX1_releaseFolded_43, eX1_releaseFolded_44, one0, and_false, false_and, gk, gr, gi, gs, rv_some, ret_i, ret_n, Option.bind_some, List.cons_append, List.nil_append, z0, z1, zi, zj, i10, i01, true_or, or_true, eq_self, not_false_eq_true, not_true_eq_false, if_true, if_false, ite_not, Decidable.not_not, and_true, true_and, or_false, false_or, Nat.reduceLeDiff, Nat.reduceMod, Nat.reduceEqDiff]
  exact key nR 0 (s, 0) I (by omega) hR hT Fr.rf
theorem X1_shareOut_ev (hB : LB F o) (hR : RB I o s nA nH nR) (hT : Iv s nA nH nR) {r : Nat} (hrR : r < nR) {p : Int32} : ∃ I', pm_ev tb xl xs mX1_shareOut 0 [some (.ref o), some (.int (nI r)), some (.int p), none, none, none, none] [] (pm_G F I) = some (none, pm_G F I') ∧ RB I' o (payB s nR r p) nA nH nR ∧ Fr I I' o := by
  have h6 := hT.1.1.2
  have h8 := hT.1.2.1.2
  have h40 := hT.1.2.2.1.2
  have hr4 : r < 40 := by omega
  have exit : ∀ i (x : St × Int32 × Int32) (J : Nat → Nat → Int32), RB J o x.1 nA nH nR → Iv x.1 nA nH nR → Fr I J o → ∃ I', pm_ev tb xl xs mX1_shareOut 82 [some (.ref o), some (.int (nI r)), some (.int p), some (.int (p / 10)), some (.int x.2.1), some (.int x.2.2), some (.int (nI i))] [] (pm_G F J) = some (none, pm_G F I') ∧ RB I' o (giveS x.1 (tn (rp x.1 r 0)) x.2.1) nA nH nR ∧ Fr I I' o := by
    intro i x J hR hT hF
    obtain ⟨h, hhH, hrh, ht⟩ := vin (hT.1.2.2.2 r hrR).1 (by omega)
    have hh : h < 8 := by omega
    have hr : r < 40 := hr4
    refine ⟨pm_u2 J (o + 9 + h) 0 (hp x.1 h 0 + x.2.1), ?_, ?_, hF.u2 (by omega)⟩
    · simp only [eX1_shareOut_0, eX1_shareOut_1, eX1_shareOut_3, eX1_shareOut_4, eX1_shareOut_5, eX1_shareOut_6, eX1_shareOut_8, eX1_shareOut_9, eX1_shareOut_11, eX1_shareOut_12, eX1_shareOut_16, eX1_shareOut_17, eX1_shareOut_20, eX1_shareOut_23, eX1_shareOut_25, eX1_shareOut_26, eX1_shareOut_29, eX1_shareOut_30, eX1_shareOut_33, eX1_shareOut_35, eX1_shareOut_36, eX1_shareOut_39, eX1_shareOut_40, eX1_shareOut_43, eX1_shareOut_44, eX1_shareOut_47, eX1_shareOut_48, eX1_shareOut_51, eX1_shareOut_53, eX1_shareOut_54, eX1_shareOut_57, eX1_shareOut_58, eX1_shareOut_58_i, eX1_shareOut_59, eX1_shareOut_62, eX1_shareOut_63, eX1_shareOut_64, eX1_shareOut_67, eX1_shareOut_69, eX1_shareOut_70, eX1_shareOut_71, eX1_shareOut_73, eX1_shareOut_76, eX1_shareOut_79, eX1_shareOut_82, eX1_shareOut_83, eX1_shareOut_86, eX1_shareOut_87, eX1_shareOut_90, eX1_shareOut_91, eX1_shareOut_92, eX1_shareOut_95, eX1_shareOut_96, eX1_shareOut_96_i, eX1_shareOut_97, eX1_shareOut_100, eX1_shareOut_102, eX1_shareOut_103, eX1_shareOut_106, one0, and_false, false_and, gk, gr, gi, gs, rv_some, ret_i, ret_n, Option.bind_some, List.cons_append, List.nil_append, z0, z1, zi, zj, i10, i01, true_or, or_true, eq_self, not_false_eq_true, not_true_eq_false, if_true, if_false, ite_not, Decidable.not_not, and_true, true_and, or_false, false_or, Nat.reduceLeDiff, Nat.reduceMod, Nat.reduceEqDiff, lb0 hB, lb1 hB, lb2 hB, lb3 hB, lb4 hB, lb5 hB, lb6 hB, lbr hB hr, lbr2 hB hr, ix40 hr, cl40 hr, lbh hB hh, lbh2 hB hh, ix8 hh, cl8 hh, rbr0 hR hrR, rbr1 hR hrR, rbr2 hR hrR, rbr3 hR hrR, rbr4 hR hrR, rbr5 hR hrR, rbr6 hR hrR, rbr7 hR hrR, rbr8 hR hrR, rbr9 hR hrR, rbr10 hR hrR, rbr11 hR hrR, rbh0 hR hhH, rbh1 hR hhH, rbh2 hR hhH, rbh3 hR hhH, hrh]
    · rw [ht]
      exact hR.wh0 h6 h8 h40 hh
  have key : ∀ n i (x : St × Int32 × Int32) (J : Nat → Nat → Int32), i + n = nR → RB J o x.1 nA nH nR → Iv x.1 nA nH nR → Fr I J o → ∃ I', pm_ev tb xl xs mX1_shareOut 14 [some (.ref o), some (.int (nI r)), some (.int p), some (.int (p / 10)), some (.int x.2.1), some (.int x.2.2), some (.int (nI i))] [] (pm_G F J) = some (none, pm_G F I') ∧ RB I' o (giveS (lp (shaG r p) i n x).1 (tn (rp (lp (shaG r p) i n x).1 r 0)) (lp (shaG r p) i n x).2.1) nA nH nR ∧ Fr I I' o := by
    intro n
    induction n with
    | zero =>
      intro i x J hi hR hT hF
      obtain rfl : i = nR := by omega
      have hn := hT.1.2.2.1.1
      rw [eX1_shareOut_14]
      simp only [eX1_shareOut_0, eX1_shareOut_1, eX1_shareOut_3, eX1_shareOut_4, eX1_shareOut_5, eX1_shareOut_6, eX1_shareOut_8, eX1_shareOut_9, eX1_shareOut_11, eX1_shareOut_12, eX1_shareOut_16, eX1_shareOut_17, eX1_shareOut_20, eX1_shareOut_23, eX1_shareOut_25, eX1_shareOut_26, eX1_shareOut_29, eX1_shareOut_30, eX1_shareOut_33, eX1_shareOut_35, eX1_shareOut_36, eX1_shareOut_39, eX1_shareOut_40, eX1_shareOut_43, eX1_shareOut_44, eX1_shareOut_47, eX1_shareOut_48, eX1_shareOut_51, eX1_shareOut_53, eX1_shareOut_54, eX1_shareOut_57, eX1_shareOut_58, eX1_shareOut_58_i, eX1_shareOut_59, eX1_shareOut_62, eX1_shareOut_63, eX1_shareOut_64, eX1_shareOut_67, eX1_shareOut_69, eX1_shareOut_70, eX1_shareOut_71, eX1_shareOut_73, eX1_shareOut_76, eX1_shareOut_79, eX1_shareOut_83, eX1_shareOut_86, eX1_shareOut_87, eX1_shareOut_90, eX1_shareOut_91, eX1_shareOut_92, eX1_shareOut_95, eX1_shareOut_96, eX1_shareOut_96_i, eX1_shareOut_97, eX1_shareOut_100, eX1_shareOut_102, eX1_shareOut_103, eX1_shareOut_106, one0, and_false, false_and, gk, gr, gi, gs, rv_some, ret_i, ret_n, Option.bind_some, List.cons_append, List.nil_append, z0, z1, zi, zj, i10, i01, true_or, or_true, eq_self, not_false_eq_true, not_true_eq_false, if_true, if_false, ite_not, Decidable.not_not, and_true, true_and, or_false, false_or, Nat.reduceLeDiff, Nat.reduceMod, Nat.reduceEqDiff, lb0 hB, lb1 hB, lb2 hB, lb3 hB, lb4 hB, lb5 hB, lb6 hB, rbg3 hR, rbg4 hR, rbg5 hR, rbg6 hR, rbg7 hR, rbg8 hR, rbg9 hR, rbg10 hR, rbg11 hR, hn, lt_f (Nat.le_refl i) (by omega), lp]
      exact exit i x J hR hT hF
    | succ n ih =>
      intro i x J hi hR hT hF
      have hn := hT.1.2.2.1.1
      have hiR : i < nR := by omega
      have hi4 : i < 40 := by omega
      obtain ⟨h, hhH, hrh, ht⟩ := vin (hT.1.2.2.2 i hiR).1 (by omega)
      have hh : h < 8 := by omega
      rw [eX1_shareOut_14]
      by_cases h3 : x.2.2 < 3
      · simp only [eX1_shareOut_0, eX1_shareOut_1, eX1_shareOut_3, eX1_shareOut_4, eX1_shareOut_5, eX1_shareOut_6, eX1_shareOut_8, eX1_shareOut_9, eX1_shareOut_11, eX1_shareOut_12, eX1_shareOut_16, eX1_shareOut_17, eX1_shareOut_20, eX1_shareOut_23, eX1_shareOut_25, eX1_shareOut_26, eX1_shareOut_29, eX1_shareOut_30, eX1_shareOut_33, eX1_shareOut_35, eX1_shareOut_36, eX1_shareOut_39, eX1_shareOut_40, eX1_shareOut_43, eX1_shareOut_44, eX1_shareOut_47, eX1_shareOut_48, eX1_shareOut_51, eX1_shareOut_53, eX1_shareOut_54, eX1_shareOut_57, eX1_shareOut_58, eX1_shareOut_58_i, eX1_shareOut_59, eX1_shareOut_62, eX1_shareOut_63, eX1_shareOut_64, eX1_shareOut_67, eX1_shareOut_69, eX1_shareOut_70, eX1_shareOut_71, eX1_shareOut_73, eX1_shareOut_76, eX1_shareOut_79, eX1_shareOut_83, eX1_shareOut_86, eX1_shareOut_87, eX1_shareOut_90, eX1_shareOut_91, eX1_shareOut_92, eX1_shareOut_95, eX1_shareOut_96, eX1_shareOut_96_i, eX1_shareOut_97, eX1_shareOut_100, eX1_shareOut_102, eX1_shareOut_103, eX1_shareOut_106, one0, and_false, false_and, gk, gr, gi, gs, rv_some, ret_i, ret_n, Option.bind_some, List.cons_append, List.nil_append, z0, z1, zi, zj, i10, i01, true_or, or_true, eq_self, not_false_eq_true, not_true_eq_false, if_true, if_false, ite_not, Decidable.not_not, and_true, true_and, or_false, false_or, Nat.reduceLeDiff, Nat.reduceMod, Nat.reduceEqDiff, lb0 hB, lb1 hB, lb2 hB, lb3 hB, lb4 hB, lb5 hB, lb6 hB, lbh hB hh, lbh2 hB hh, ix8 hh, cl8 hh, rbg3 hR, rbg4 hR, rbg5 hR, rbg6 hR, rbg7 hR, rbg8 hR, rbg9 hR, rbg10 hR, rbg11 hR, rbh0 hR hhH, rbh1 hR hhH, rbh2 hR hhH, rbh3 hR hhH, lbr hB hi4, lbr2 hB hi4, ix40 hi4, cl40 hi4, rbr0 hR hiR, rbr5 hR hiR, hrh, hn, h3, lt_t hiR (by omega), nI_1, into_iff (hT.2 i hiR).2.2.1 (show r < 1000 by omega), lp]
        by_cases hc : under x.1 r i
        · have e : shaG r p i x = (giveS x.1 h (p / 10), x.2.1 - p / 10, x.2.2 + 1) := by
            unfold shaG
            rw [if_pos ⟨h3, hc⟩, ht]
          have h1 := Iv.sha (r := r) (p := p) hiR hT
          rw [e] at h1 ⊢
          rw [if_pos hc]
          exact ih (i + 1) (giveS x.1 h (p / 10), x.2.1 - p / 10, x.2.2 + 1) _ (by omega) (hR.wh0 h6 h8 h40 hh) h1 (hF.u2 (by omega))
        · have e : shaG r p i x = x := if_neg (fun q => hc q.2)
          rw [e, if_neg hc]
          exact ih (i + 1) x J (by omega) hR hT hF
      · rw [sha_stop h3]
        simp only [eX1_shareOut_0, eX1_shareOut_1, eX1_shareOut_3, eX1_shareOut_4, eX1_shareOut_5, eX1_shareOut_6, eX1_shareOut_8, eX1_shareOut_9, eX1_shareOut_11, eX1_shareOut_12, eX1_shareOut_16, eX1_shareOut_17, eX1_shareOut_20, eX1_shareOut_23, eX1_shareOut_25, eX1_shareOut_26, eX1_shareOut_29, eX1_shareOut_30, eX1_shareOut_33, eX1_shareOut_35, eX1_shareOut_36, eX1_shareOut_39, eX1_shareOut_40, eX1_shareOut_43, eX1_shareOut_44, eX1_shareOut_47, eX1_shareOut_48, eX1_shareOut_51, eX1_shareOut_53, eX1_shareOut_54, eX1_shareOut_57, eX1_shareOut_58, eX1_shareOut_58_i, eX1_shareOut_59, eX1_shareOut_62, eX1_shareOut_63, eX1_shareOut_64, eX1_shareOut_67, eX1_shareOut_69, eX1_shareOut_70, eX1_shareOut_71, eX1_shareOut_73, eX1_shareOut_76, eX1_shareOut_79, eX1_shareOut_83, eX1_shareOut_86, eX1_shareOut_87, eX1_shareOut_90, eX1_shareOut_91, eX1_shareOut_92, eX1_shareOut_95, eX1_shareOut_96, eX1_shareOut_96_i, eX1_shareOut_97, eX1_shareOut_100, eX1_shareOut_102, eX1_shareOut_103, eX1_shareOut_106, one0, and_false, false_and, gk, gr, gi, gs, rv_some, ret_i, ret_n, Option.bind_some, List.cons_append, List.nil_append, z0, z1, zi, zj, i10, i01, true_or, or_true, eq_self, not_false_eq_true, not_true_eq_false, if_true, if_false, ite_not, Decidable.not_not, and_true, true_and, or_false, false_or, Nat.reduceLeDiff, Nat.reduceMod, Nat.reduceEqDiff, lb0 hB, lb1 hB, lb2 hB, lb3 hB, lb4 hB, lb5 hB, lb6 hB, rbg3 hR, rbg4 hR, rbg5 hR, rbg6 hR, rbg7 hR, rbg8 hR, rbg9 hR, rbg10 hR, rbg11 hR, hn, h3, lt_t hiR (by omega)]
        exact exit i x J hR hT hF
  simp only [eX1_shareOut_0, eX1_shareOut_1, eX1_shareOut_3, eX1_shareOut_4, eX1_shareOut_5, eX1_shareOut_6, eX1_shareOut_8, eX1_shareOut_9, eX1_shareOut_11, eX1_shareOut_12, eX1_shareOut_16, eX1_shareOut_17, eX1_shareOut_20, eX1_shareOut_23, eX1_shareOut_25, eX1_shareOut_26, eX1_shareOut_29, eX1_shareOut_30, eX1_shareOut_33, eX1_shareOut_35, eX1_shareOut_36, eX1_shareOut_39, eX1_shareOut_40, eX1_shareOut_43, eX1_shareOut_44, eX1_shareOut_47, eX1_shareOut_48, eX1_shareOut_51, eX1_shareOut_53, eX1_shareOut_54, eX1_shareOut_57, eX1_shareOut_58, eX1_shareOut_58_i, eX1_shareOut_59, eX1_shareOut_62, eX1_shareOut_63, eX1_shareOut_64, eX1_shareOut_67, eX1_shareOut_69, eX1_shareOut_70, eX1_shareOut_71, eX1_shareOut_73, eX1_shareOut_76, eX1_shareOut_79, eX1_shareOut_82, eX1_shareOut_83, eX1_shareOut_86, eX1_shareOut_87, eX1_shareOut_90, eX1_shareOut_91, eX1_shareOut_92, eX1_shareOut_95, eX1_shareOut_96, eX1_shareOut_96_i, eX1_shareOut_97, eX1_shareOut_100, eX1_shareOut_102, eX1_shareOut_103, eX1_shareOut_106, one0, and_false, false_and, gk, gr, gi, gs, rv_some, ret_i, ret_n, Option.bind_some, List.cons_append, List.nil_append, z0, z1, zi, zj, i10, i01, true_or, or_true, eq_self, not_false_eq_true, not_true_eq_false, if_true, if_false, ite_not, Decidable.not_not, and_true, true_and, or_false, false_or, Nat.reduceLeDiff, Nat.reduceMod, Nat.reduceEqDiff, d10]
  exact key nR 0 (s, p, 0) I (by omega) hR hT Fr.rf
theorem X1_payOrWait_ev (hB : LB F o) (hR : RB I o s nA nH nR) (hT : Iv s nA nH nR) {r : Nat} (hrR : r < nR) (hd : isDue s r) : ∃ I', pm_ev tb xl xs mX1_payOrWait 0 [some (.ref o), some (.int (nI r)), none, none, none, none] [] (pm_G F I) = some (some (.int (paysS s nR r).2), pm_G F I') ∧ RB I' o (paysS s nR r).1 nA nH nR ∧ Fr I I' o := by
  have h6 := hT.1.1.2
  have h8 := hT.1.2.1.2
  have h40 := hT.1.2.2.1.2
  have hr : r < 40 := by omega
  obtain ⟨a, haA, hra, ht⟩ := vin (hT.1.2.2.2 r hrR).2 (by omega)
  have ha : a < 6 := by omega
  have noa : ∀ {j k : Nat}, (o = o + 2 + a ∧ j = k) = False := eq_false (by omega)
  have nra : ∀ {j k : Nat}, (o + 18 + r = o + 2 + a ∧ j = k) = False := eq_false (by omega)
  have nar : ∀ {j k : Nat}, (o + 2 + a = o + 18 + r ∧ j = k) = False := eq_false (by omega)
  have nor : ∀ {j k : Nat}, (o = o + 18 + r ∧ j = k) = False := eq_false (by omega)
  have nro : ∀ {j k : Nat}, (o + 18 + r = o ∧ j = k) = False := eq_false (by omega)
  have nao : ∀ {j k : Nat}, (o + 2 + a = o ∧ j = k) = False := eq_false (by omega)
  unfold paysS
  rw [ht]
  simp only [eX1_payOrWait_0, eX1_payOrWait_1, eX1_payOrWait_4, eX1_payOrWait_5, eX1_payOrWait_6, eX1_payOrWait_7, eX1_payOrWait_8, eX1_payOrWait_11, eX1_payOrWait_12, eX1_payOrWait_15, eX1_payOrWait_16, eX1_payOrWait_17, eX1_payOrWait_18, eX1_payOrWait_19, eX1_payOrWait_22, eX1_payOrWait_24, eX1_payOrWait_26, eX1_payOrWait_27, eX1_payOrWait_30, eX1_payOrWait_31, eX1_payOrWait_34, eX1_payOrWait_35, eX1_payOrWait_38, eX1_payOrWait_39, eX1_payOrWait_40, eX1_payOrWait_43, eX1_payOrWait_44, eX1_payOrWait_45, eX1_payOrWait_47, eX1_payOrWait_48, eX1_payOrWait_51, eX1_payOrWait_54, eX1_payOrWait_56, eX1_payOrWait_57, eX1_payOrWait_57_i, eX1_payOrWait_58, eX1_payOrWait_61, eX1_payOrWait_63, eX1_payOrWait_64, eX1_payOrWait_67, eX1_payOrWait_68, eX1_payOrWait_68_i, eX1_payOrWait_69, eX1_payOrWait_72, eX1_payOrWait_74, eX1_payOrWait_76, eX1_payOrWait_77, eX1_payOrWait_78, eX1_payOrWait_81, eX1_payOrWait_82, eX1_payOrWait_83, eX1_payOrWait_86, eX1_payOrWait_87, eX1_payOrWait_89, eX1_payOrWait_92, eX1_payOrWait_93, eX1_payOrWait_93_i, eX1_payOrWait_94, eX1_payOrWait_97, eX1_payOrWait_99, eX1_payOrWait_100, eX1_payOrWait_103, eX1_payOrWait_104, eX1_payOrWait_105, eX1_payOrWait_107, eX1_payOrWait_110, eX1_payOrWait_112, one0, and_false, false_and, gk, gr, gi, gs, rv_some, ret_i, ret_n, Option.bind_some, List.cons_append, List.nil_append, z0, z1, zi, zj, i10, i01, true_or, or_true, eq_self, not_false_eq_true, not_true_eq_false, if_true, if_false, ite_not, Decidable.not_not, and_true, true_and, or_false, false_or, Nat.reduceLeDiff, Nat.reduceMod, Nat.reduceEqDiff, lb0 hB, lb1 hB, lb2 hB, lb3 hB, lb4 hB, lb5 hB, lb6 hB, lbr hB hr, lbr2 hB hr, ix40 hr, cl40 hr, lba hB ha, lba2 hB ha, ix6 ha, cl6 ha, rbg3 hR, rbg4 hR, rbg5 hR, rbg6 hR, rbg7 hR, rbg8 hR, rbg9 hR, rbg10 hR, rbg11 hR, rbr0 hR hrR, rbr1 hR hrR, rbr2 hR hrR, rbr3 hR hrR, rbr4 hR hrR, rbr5 hR hrR, rbr6 hR hrR, rbr7 hR hrR, rbr8 hR hrR, rbr9 hR hrR, rbr10 hR hrR, rbr11 hR hrR, rba0 hR haA, rba1 hR haA, rba2 hR haA, X1_priceOf_ev hB hR hT.1 hrR, hra, u2_r, noa, nra, nar, nor, nro, nao]
  by_cases hc : ap s a 2 + gp s 1 < price s r
  · simp only [hc, if_true]
    exact ⟨_, rfl, hR.wr3 h6 h8 h40 hr, Fr.rf.u2 (by omega)⟩
  · simp only [hc, if_false]
    have hs : ∀ J, RB J o (payA s r a (price s r) (ownS s a (price s r))) nA nH nR → Fr I J o → ∃ K, pm_ev tb xl xs mX1_shareOut 0 [some (.ref o), some (.int (nI r)), some (.int (price s r)), none, none, none, none] [] (pm_G F J) = some (none, pm_G F K) ∧ RB K o (payB (payA s r a (price s r) (ownS s a (price s r))) nR r (price s r)) nA nH nR ∧ Fr I K o := by
      intro J hJ hF
      obtain ⟨K, e, h1, h2⟩ := X1_shareOut_ev (xl := xl) (xs := xs) hB hJ (hT.payA hrR ha hd) hrR (p := price s r)
      exact ⟨K, e, h1, hF.tr h2⟩
    refine bindE (hs _ ?_ ?_) ?_
    · unfold payA ownS
      rw [← sG_sR (by decide), ← sG_sR (by decide)]
      exact ((((hR.wa2 h6 h8 h40 ha).wg7 h6 h8 h40).wr3 h6 h8 h40 hr).wr8 h6 h8 h40 hr).wg10 h6 h8 h40
    · exact ((((Fr.rf.u2 (by omega)).u2 (by omega)).u2 (by omega)).u2 (by omega)).u2 (by omega)
    · intro J hJ
      refine ⟨J, ?_, hJ⟩
      simp only [eX1_payOrWait_0, eX1_payOrWait_1, eX1_payOrWait_4, eX1_payOrWait_5, eX1_payOrWait_6, eX1_payOrWait_7, eX1_payOrWait_8, eX1_payOrWait_11, eX1_payOrWait_12, eX1_payOrWait_15, eX1_payOrWait_16, eX1_payOrWait_17, eX1_payOrWait_18, eX1_payOrWait_19, eX1_payOrWait_22, eX1_payOrWait_24, eX1_payOrWait_26, eX1_payOrWait_27, eX1_payOrWait_30, eX1_payOrWait_31, eX1_payOrWait_34, eX1_payOrWait_35, eX1_payOrWait_38, eX1_payOrWait_39, eX1_payOrWait_40, eX1_payOrWait_43, eX1_payOrWait_44, eX1_payOrWait_45, eX1_payOrWait_47, eX1_payOrWait_48, eX1_payOrWait_51, eX1_payOrWait_54, eX1_payOrWait_56, eX1_payOrWait_57, eX1_payOrWait_57_i, eX1_payOrWait_58, eX1_payOrWait_61, eX1_payOrWait_63, eX1_payOrWait_64, eX1_payOrWait_67, eX1_payOrWait_68, eX1_payOrWait_68_i, eX1_payOrWait_69, eX1_payOrWait_72, eX1_payOrWait_74, eX1_payOrWait_76, eX1_payOrWait_77, eX1_payOrWait_78, eX1_payOrWait_81, eX1_payOrWait_82, eX1_payOrWait_83, eX1_payOrWait_86, eX1_payOrWait_87, eX1_payOrWait_89, eX1_payOrWait_92, eX1_payOrWait_93, eX1_payOrWait_93_i, eX1_payOrWait_94, eX1_payOrWait_97, eX1_payOrWait_99, eX1_payOrWait_100, eX1_payOrWait_103, eX1_payOrWait_104, eX1_payOrWait_105, eX1_payOrWait_107, eX1_payOrWait_110, eX1_payOrWait_112, one0, and_false, false_and, gk, gr, gi, gs, rv_some, ret_i, ret_n, Option.bind_some, List.cons_append, List.nil_append, z0, z1, zi, zj, i10, i01, true_or, or_true, eq_self, not_false_eq_true, not_true_eq_false, if_true, if_false, ite_not, Decidable.not_not, and_true, true_and, or_false, false_or, Nat.reduceLeDiff, Nat.reduceMod, Nat.reduceEqDiff]
theorem X1_beginQuarter_ev (hB : LB F o) (hR : RB I o s nA nH nR) (hT : Iv s nA nH nR) : ∃ I', pm_ev tb xl xs mX1_beginQuarter 0 [some (.ref o), none, none, none, none] [] (pm_G F I) = some (some (.int (begS s nA nR).2), pm_G F I') ∧ RB I' o (begS s nA nR).1 nA nH nR ∧ Fr I I' o := by
  have h6 := hT.1.1.2
  have h8 := hT.1.2.1.2
  have h40 := hT.1.2.2.1.2
  have key2 : ∀ n i (x : St × Int32) (J : Nat → Nat → Int32) (l3 l4 : Option Value), i + n = nR → RB J o x.1 nA nH nR → Iv x.1 nA nH nR → Fr I J o → ∃ I', pm_ev tb xl xs mX1_beginQuarter 64 [some (.ref o), some (.int x.2), some (.int (nI i)), l3, l4] [] (pm_G F J) = some (some (.int (lp (begG nR) i n x).2), pm_G F I') ∧ RB I' o (lp (begG nR) i n x).1 nA nH nR ∧ Fr I I' o := by
    intro n
    induction n with
    | zero =>
      intro i x J l3 l4 hi hR hT hF
      obtain rfl : i = nR := by omega
      have hn := hT.1.2.2.1.1
      refine ⟨J, ?_, hR, hF⟩
      rw [eX1_beginQuarter_64]
      simp only [eX1_beginQuarter_0, eX1_beginQuarter_1, eX1_beginQuarter_3, eX1_beginQuarter_4, eX1_beginQuarter_7, eX1_beginQuarter_10, eX1_beginQuarter_11, eX1_beginQuarter_14, eX1_beginQuarter_15, eX1_beginQuarter_16, eX1_beginQuarter_17, eX1_beginQuarter_18, eX1_beginQuarter_21, eX1_beginQuarter_22, eX1_beginQuarter_25, eX1_beginQuarter_28, eX1_beginQuarter_29, eX1_beginQuarter_30, eX1_beginQuarter_30_i, eX1_beginQuarter_31, eX1_beginQuarter_34, eX1_beginQuarter_35, eX1_beginQuarter_38, eX1_beginQuarter_39, eX1_beginQuarter_40, eX1_beginQuarter_41, eX1_beginQuarter_44, eX1_beginQuarter_45, eX1_beginQuarter_46, eX1_beginQuarter_47, eX1_beginQuarter_50, eX1_beginQuarter_51, eX1_beginQuarter_54, eX1_beginQuarter_57, eX1_beginQuarter_60, eX1_beginQuarter_61, eX1_beginQuarter_62, eX1_beginQuarter_63, eX1_beginQuarter_65, eX1_beginQuarter_66, eX1_beginQuarter_69, eX1_beginQuarter_72, eX1_beginQuarter_73, eX1_beginQuarter_76, eX1_beginQuarter_77, eX1_beginQuarter_78, eX1_beginQuarter_79, eX1_beginQuarter_80, eX1_beginQuarter_83, eX1_beginQuarter_84, eX1_beginQuarter_87, eX1_beginQuarter_88, eX1_beginQuarter_91, eX1_beginQuarter_92, eX1_beginQuarter_95, eX1_beginQuarter_96, eX1_beginQuarter_99, eX1_beginQuarter_100, eX1_beginQuarter_102, eX1_beginQuarter_104, eX1_beginQuarter_107, eX1_beginQuarter_108, eX1_beginQuarter_109, eX1_beginQuarter_112, eX1_beginQuarter_115, eX1_beginQuarter_118, eX1_beginQuarter_121, eX1_beginQuarter_124, eX1_beginQuarter_125, one0, and_false, false_and, gk, gr, gi, gs, rv_some, ret_i, ret_n, Option.bind_some, List.cons_append, List.nil_append, z0, z1, zi, zj, i10, i01, true_or, or_true, eq_self, not_false_eq_true, not_true_eq_false, if_true, if_false, ite_not, Decidable.not_not, and_true, true_and, or_false, false_or, Nat.reduceLeDiff, Nat.reduceMod, Nat.reduceEqDiff, lb0 hB, lb1 hB, lb2 hB, lb3 hB, lb4 hB, lb5 hB, lb6 hB, rbg3 hR, rbg4 hR, rbg5 hR, rbg6 hR, rbg7 hR, rbg8 hR, rbg9 hR, rbg10 hR, rbg11 hR, hn, lt_f (Nat.le_refl i) (by omega), lp]
    | succ n ih =>
      intro i x J l3 l4 hi hR hT hF
      have hn := hT.1.2.2.1.1
      have hrR : i < nR := by omega
      have hr : i < 40 := by omega
      rw [eX1_beginQuarter_64]
      simp only [eX1_beginQuarter_0, eX1_beginQuarter_1, eX1_beginQuarter_3, eX1_beginQuarter_4, eX1_beginQuarter_7, eX1_beginQuarter_10, eX1_beginQuarter_11, eX1_beginQuarter_14, eX1_beginQuarter_15, eX1_beginQuarter_16, eX1_beginQuarter_17, eX1_beginQuarter_18, eX1_beginQuarter_21, eX1_beginQuarter_22, eX1_beginQuarter_25, eX1_beginQuarter_28, eX1_beginQuarter_29, eX1_beginQuarter_30, eX1_beginQuarter_30_i, eX1_beginQuarter_31, eX1_beginQuarter_34, eX1_beginQuarter_35, eX1_beginQuarter_38, eX1_beginQuarter_39, eX1_beginQuarter_40, eX1_beginQuarter_41, eX1_beginQuarter_44, eX1_beginQuarter_45, eX1_beginQuarter_46, eX1_beginQuarter_47, eX1_beginQuarter_50, eX1_beginQuarter_51, eX1_beginQuarter_54, eX1_beginQuarter_57, eX1_beginQuarter_60, eX1_beginQuarter_61, eX1_beginQuarter_62, eX1_beginQuarter_63, eX1_beginQuarter_65, eX1_beginQuarter_66, eX1_beginQuarter_69, eX1_beginQuarter_72, eX1_beginQuarter_73, eX1_beginQuarter_76, eX1_beginQuarter_77, eX1_beginQuarter_78, eX1_beginQuarter_79, eX1_beginQuarter_80, eX1_beginQuarter_83, eX1_beginQuarter_84, eX1_beginQuarter_87, eX1_beginQuarter_88, eX1_beginQuarter_91, eX1_beginQuarter_92, eX1_beginQuarter_95, eX1_beginQuarter_96, eX1_beginQuarter_99, eX1_beginQuarter_100, eX1_beginQuarter_102, eX1_beginQuarter_104, eX1_beginQuarter_107, eX1_beginQuarter_108, eX1_beginQuarter_109, eX1_beginQuarter_112, eX1_beginQuarter_115, eX1_beginQuarter_118, eX1_beginQuarter_121, eX1_beginQuarter_124, eX1_beginQuarter_125, one0, and_false, false_and, gk, gr, gi, gs, rv_some, ret_i, ret_n, Option.bind_some, List.cons_append, List.nil_append, z0, z1, zi, zj, i10, i01, true_or, or_true, eq_self, not_false_eq_true, not_true_eq_false, if_true, if_false, ite_not, Decidable.not_not, and_true, true_and, or_false, false_or, Nat.reduceLeDiff, Nat.reduceMod, Nat.reduceEqDiff, lb0 hB, lb1 hB, lb2 hB, lb3 hB, lb4 hB, lb5 hB, lb6 hB, lbr hB hr, lbr2 hB hr, ix40 hr, cl40 hr, rbg3 hR, rbg4 hR, rbg5 hR, rbg6 hR, rbg7 hR, rbg8 hR, rbg9 hR, rbg10 hR, rbg11 hR, rbr0 hR hrR, rbr1 hR hrR, rbr2 hR hrR, rbr3 hR hrR, rbr4 hR hrR, rbr5 hR hrR, rbr6 hR hrR, rbr7 hR hrR, rbr8 hR hrR, rbr9 hR hrR, rbr10 hR hrR, rbr11 hR hrR, hn, lt_t hrR (by omega), nI_1, lp]
      have hno : (∃ I', pm_ev tb xl xs mX1_beginQuarter 64 [some (.ref o), some (.int x.2), some (.int (nI (i + 1))), some (.ref (o + 18 + i)), some (.int 0)] [] (pm_G F J) = some (some (.int (lp (begG nR) (i + 1) n x).2), pm_G F I') ∧ RB I' o (lp (begG nR) (i + 1) n x).1 nA nH nR ∧ Fr I I' o) := ih (i + 1) x J _ _ (by omega) hR hT hF
      by_cases h2 : rp x.1 i 3 = 2
      · by_cases h3 : rp x.1 i 6 = 1
        · have e : begG nR i x = x := if_neg (fun q => q.2 h3)
          rw [e]
          simp only [h2, h3, if_true, one0, if_false]
          exact hno
        · have e : begG nR i x = ((paysS x.1 nR i).1, x.2 + if 0 < (paysS x.1 nR i).2 then 1 else 0) := if_pos ⟨h2, h3⟩
          have h1 := Iv.beg hrR hT
          rw [e] at h1 ⊢
          simp only [h2, h3, if_true, one0, if_false]
          have hs : ∃ K, pm_ev tb xl xs mX1_payOrWait 0 [some (.ref o), some (.int (nI i)), none, none, none, none] [] (pm_G F J) = some (some (.int (paysS x.1 nR i).2), pm_G F K) ∧ RB K o (paysS x.1 nR i).1 nA nH nR ∧ Fr I K o := by
            obtain ⟨K, e, g1, g2⟩ := X1_payOrWait_ev (xl := xl) (xs := xs) hB hR hT hrR (Or.inr h2)
            exact ⟨K, e, g1, hF.tr g2⟩
          refine bindE hs ?_
          intro K hK
          simp only [eX1_beginQuarter_0, eX1_beginQuarter_1, eX1_beginQuarter_3, eX1_beginQuarter_4, eX1_beginQuarter_7, eX1_beginQuarter_10, eX1_beginQuarter_11, eX1_beginQuarter_14, eX1_beginQuarter_15, eX1_beginQuarter_16, eX1_beginQuarter_17, eX1_beginQuarter_18, eX1_beginQuarter_21, eX1_beginQuarter_22, eX1_beginQuarter_25, eX1_beginQuarter_28, eX1_beginQuarter_29, eX1_beginQuarter_30, eX1_beginQuarter_30_i, eX1_beginQuarter_31, eX1_beginQuarter_34, eX1_beginQuarter_35, eX1_beginQuarter_38, eX1_beginQuarter_39, eX1_beginQuarter_40, eX1_beginQuarter_41, eX1_beginQuarter_44, eX1_beginQuarter_45, eX1_beginQuarter_46, eX1_beginQuarter_47, eX1_beginQuarter_50, eX1_beginQuarter_51, eX1_beginQuarter_54, eX1_beginQuarter_57, eX1_beginQuarter_60, eX1_beginQuarter_61, eX1_beginQuarter_62, eX1_beginQuarter_63, eX1_beginQuarter_65, eX1_beginQuarter_66, eX1_beginQuarter_69, eX1_beginQuarter_72, eX1_beginQuarter_73, eX1_beginQuarter_76, eX1_beginQuarter_77, eX1_beginQuarter_78, eX1_beginQuarter_79, eX1_beginQuarter_80, eX1_beginQuarter_83, eX1_beginQuarter_84, eX1_beginQuarter_87, eX1_beginQuarter_88, eX1_beginQuarter_91, eX1_beginQuarter_92, eX1_beginQuarter_95, eX1_beginQuarter_96, eX1_beginQuarter_99, eX1_beginQuarter_100, eX1_beginQuarter_102, eX1_beginQuarter_104, eX1_beginQuarter_107, eX1_beginQuarter_108, eX1_beginQuarter_109, eX1_beginQuarter_112, eX1_beginQuarter_115, eX1_beginQuarter_118, eX1_beginQuarter_121, eX1_beginQuarter_124, eX1_beginQuarter_125, one0, and_false, false_and, gk, gr, gi, gs, rv_some, ret_i, ret_n, Option.bind_some, List.cons_append, List.nil_append, z0, z1, zi, zj, i10, i01, true_or, or_true, eq_self, not_false_eq_true, not_true_eq_false, if_true, if_false, ite_not, Decidable.not_not, and_true, true_and, or_false, false_or, Nat.reduceLeDiff, Nat.reduceMod, Nat.reduceEqDiff, nI_1]
          by_cases h4 : 0 < (paysS x.1 nR i).2
          · simp only [h4, if_true] at h1 ⊢
            exact ih (i + 1) ((paysS x.1 nR i).1, x.2 + 1) K _ _ (by omega) hK.1 h1 hK.2
          · simp only [h4, if_false, Int32.add_zero] at h1 ⊢
            exact ih (i + 1) ((paysS x.1 nR i).1, x.2) K _ _ (by omega) hK.1 h1 hK.2
      · have e : begG nR i x = x := if_neg (fun q => h2 q.1)
        rw [e]
        simp only [h2, if_false]
        exact hno
  have key1 : ∀ n i (x : St) (J : Nat → Nat → Int32) (l2 l3 : Option Value), i + n = nA → RB J o x nA nH nR → Iv x nA nH nR → Fr I J o → ∃ I', pm_ev tb xl xs mX1_beginQuarter 2 [some (.ref o), some (.int (nI i)), l2, l3, none] [] (pm_G F J) = some (some (.int (lp (begG nR) 0 nR (lp alG i n x, 0)).2), pm_G F I') ∧ RB I' o (lp (begG nR) 0 nR (lp alG i n x, 0)).1 nA nH nR ∧ Fr I I' o := by
    intro n
    induction n with
    | zero =>
      intro i x J l2 l3 hi hR hT hF
      obtain rfl : i = nA := by omega
      have hn := hT.1.1.1
      rw [eX1_beginQuarter_2]
      simp only [eX1_beginQuarter_0, eX1_beginQuarter_1, eX1_beginQuarter_3, eX1_beginQuarter_4, eX1_beginQuarter_7, eX1_beginQuarter_10, eX1_beginQuarter_11, eX1_beginQuarter_14, eX1_beginQuarter_15, eX1_beginQuarter_16, eX1_beginQuarter_17, eX1_beginQuarter_18, eX1_beginQuarter_21, eX1_beginQuarter_22, eX1_beginQuarter_25, eX1_beginQuarter_28, eX1_beginQuarter_29, eX1_beginQuarter_30, eX1_beginQuarter_30_i, eX1_beginQuarter_31, eX1_beginQuarter_34, eX1_beginQuarter_35, eX1_beginQuarter_38, eX1_beginQuarter_39, eX1_beginQuarter_40, eX1_beginQuarter_41, eX1_beginQuarter_44, eX1_beginQuarter_45, eX1_beginQuarter_46, eX1_beginQuarter_47, eX1_beginQuarter_50, eX1_beginQuarter_51, eX1_beginQuarter_54, eX1_beginQuarter_57, eX1_beginQuarter_60, eX1_beginQuarter_61, eX1_beginQuarter_62, eX1_beginQuarter_63, eX1_beginQuarter_65, eX1_beginQuarter_66, eX1_beginQuarter_69, eX1_beginQuarter_72, eX1_beginQuarter_73, eX1_beginQuarter_76, eX1_beginQuarter_77, eX1_beginQuarter_78, eX1_beginQuarter_79, eX1_beginQuarter_80, eX1_beginQuarter_83, eX1_beginQuarter_84, eX1_beginQuarter_87, eX1_beginQuarter_88, eX1_beginQuarter_91, eX1_beginQuarter_92, eX1_beginQuarter_95, eX1_beginQuarter_96, eX1_beginQuarter_99, eX1_beginQuarter_100, eX1_beginQuarter_102, eX1_beginQuarter_104, eX1_beginQuarter_107, eX1_beginQuarter_108, eX1_beginQuarter_109, eX1_beginQuarter_112, eX1_beginQuarter_115, eX1_beginQuarter_118, eX1_beginQuarter_121, eX1_beginQuarter_124, eX1_beginQuarter_125, one0, and_false, false_and, gk, gr, gi, gs, rv_some, ret_i, ret_n, Option.bind_some, List.cons_append, List.nil_append, z0, z1, zi, zj, i10, i01, true_or, or_true, eq_self, not_false_eq_true, not_true_eq_false, if_true, if_false, ite_not, Decidable.not_not, and_true, true_and, or_false, false_or, Nat.reduceLeDiff, Nat.reduceMod, Nat.reduceEqDiff, lb0 hB, lb1 hB, lb2 hB, lb3 hB, lb4 hB, lb5 hB, lb6 hB, rbg3 hR, rbg4 hR, rbg5 hR, rbg6 hR, rbg7 hR, rbg8 hR, rbg9 hR, rbg10 hR, rbg11 hR, hn, lt_f (Nat.le_refl i) (by omega), lp]
      exact key2 nR 0 (x, 0) J _ _ (by omega) hR hT hF
    | succ n ih =>
      intro i x J l2 l3 hi hR hT hF
      have hn := hT.1.1.1
      have haA : i < nA := by omega
      have ha : i < 6 := by omega
      have noa : (o = o + 2 + i) = False := eq_false (by omega)
      have nao : (o + 2 + i = o) = False := eq_false (by omega)
      rw [eX1_beginQuarter_2]
      simp only [eX1_beginQuarter_0, eX1_beginQuarter_1, eX1_beginQuarter_3, eX1_beginQuarter_4, eX1_beginQuarter_7, eX1_beginQuarter_10, eX1_beginQuarter_11, eX1_beginQuarter_14, eX1_beginQuarter_15, eX1_beginQuarter_16, eX1_beginQuarter_17, eX1_beginQuarter_18, eX1_beginQuarter_21, eX1_beginQuarter_22, eX1_beginQuarter_25, eX1_beginQuarter_28, eX1_beginQuarter_29, eX1_beginQuarter_30, eX1_beginQuarter_30_i, eX1_beginQuarter_31, eX1_beginQuarter_34, eX1_beginQuarter_35, eX1_beginQuarter_38, eX1_beginQuarter_39, eX1_beginQuarter_40, eX1_beginQuarter_41, eX1_beginQuarter_44, eX1_beginQuarter_45, eX1_beginQuarter_46, eX1_beginQuarter_47, eX1_beginQuarter_50, eX1_beginQuarter_51, eX1_beginQuarter_54, eX1_beginQuarter_57, eX1_beginQuarter_60, eX1_beginQuarter_61, eX1_beginQuarter_62, eX1_beginQuarter_63, eX1_beginQuarter_65, eX1_beginQuarter_66, eX1_beginQuarter_69, eX1_beginQuarter_72, eX1_beginQuarter_73, eX1_beginQuarter_76, eX1_beginQuarter_77, eX1_beginQuarter_78, eX1_beginQuarter_79, eX1_beginQuarter_80, eX1_beginQuarter_83, eX1_beginQuarter_84, eX1_beginQuarter_87, eX1_beginQuarter_88, eX1_beginQuarter_91, eX1_beginQuarter_92, eX1_beginQuarter_95, eX1_beginQuarter_96, eX1_beginQuarter_99, eX1_beginQuarter_100, eX1_beginQuarter_102, eX1_beginQuarter_104, eX1_beginQuarter_107, eX1_beginQuarter_108, eX1_beginQuarter_109, eX1_beginQuarter_112, eX1_beginQuarter_115, eX1_beginQuarter_118, eX1_beginQuarter_121, eX1_beginQuarter_124, eX1_beginQuarter_125, one0, and_false, false_and, gk, gr, gi, gs, rv_some, ret_i, ret_n, Option.bind_some, List.cons_append, List.nil_append, z0, z1, zi, zj, i10, i01, true_or, or_true, eq_self, not_false_eq_true, not_true_eq_false, if_true, if_false, ite_not, Decidable.not_not, and_true, true_and, or_false, false_or, Nat.reduceLeDiff, Nat.reduceMod, Nat.reduceEqDiff, lb0 hB, lb1 hB, lb2 hB, lb3 hB, lb4 hB, lb5 hB, lb6 hB, lba hB ha, lba2 hB ha, ix6 ha, cl6 ha, rbg3 hR, rbg4 hR, rbg5 hR, rbg6 hR, rbg7 hR, rbg8 hR, rbg9 hR, rbg10 hR, rbg11 hR, rba0 hR haA, rba1 hR haA, rba2 hR haA, hn, lt_t haA (by omega), nI_1, lp, u2_r, noa, nao]
      refine ih (i + 1) (alG i x) _ _ _ (by omega) ?_ (Iv.al haA hT) ?_
      · unfold alG staS
        have := (hR.wg7 (v := gp x 1 + (ap x i 2 - if ap x i 1 < ap x i 2 then ap x i 1 else ap x i 2)) h6 h8 h40).wa2 (v := (if ap x i 1 < ap x i 2 then ap x i 1 else ap x i 2) + ap x i 1) h6 h8 h40 ha
        have e : (if ap x i 1 < ap x i 2 then ap x i 1 else ap x i 2) = if ap x i 2 < ap x i 1 then ap x i 2 else ap x i 1 := by
          by_cases c1 : ap x i 1 < ap x i 2
          · rw [if_pos c1, if_neg (Int32.not_lt.mpr (Int32.le_of_lt c1))]
          · by_cases c2 : ap x i 2 < ap x i 1
            · rw [if_neg c1, if_pos c2]
            · rw [if_neg c1, if_neg c2]
              exact Int32.le_antisymm (Int32.not_lt.mp c1) (Int32.not_lt.mp c2)
        rw [e] at this ⊢
        exact this
      · exact (hF.u2 (by omega)).u2 (by omega)
  simp only [eX1_beginQuarter_0, eX1_beginQuarter_1, eX1_beginQuarter_3, eX1_beginQuarter_4, eX1_beginQuarter_7, eX1_beginQuarter_10, eX1_beginQuarter_11, eX1_beginQuarter_14, eX1_beginQuarter_15, eX1_beginQuarter_16, eX1_beginQuarter_17, eX1_beginQuarter_18, eX1_beginQuarter_21, eX1_beginQuarter_22, eX1_beginQuarter_25, eX1_beginQuarter_28, eX1_beginQuarter_29, eX1_beginQuarter_30, eX1_beginQuarter_30_i, eX1_beginQuarter_31, eX1_beginQuarter_34, eX1_beginQuarter_35, eX1_beginQuarter_38, eX1_beginQuarter_39, eX1_beginQuarter_40, eX1_beginQuarter_41, eX1_beginQuarter_44, eX1_beginQuarter_45, eX1_beginQuarter_46, eX1_beginQuarter_47, eX1_beginQuarter_50, eX1_beginQuarter_51, eX1_beginQuarter_54, eX1_beginQuarter_57, eX1_beginQuarter_60, eX1_beginQuarter_61, eX1_beginQuarter_62, eX1_beginQuarter_63, eX1_beginQuarter_65, eX1_beginQuarter_66, eX1_beginQuarter_69, eX1_beginQuarter_72, eX1_beginQuarter_73, eX1_beginQuarter_76, eX1_beginQuarter_77, eX1_beginQuarter_78, eX1_beginQuarter_79, eX1_beginQuarter_80, eX1_beginQuarter_83, eX1_beginQuarter_84, eX1_beginQuarter_87, eX1_beginQuarter_88, eX1_beginQuarter_91, eX1_beginQuarter_92, eX1_beginQuarter_95, eX1_beginQuarter_96, eX1_beginQuarter_99, eX1_beginQuarter_100, eX1_beginQuarter_102, eX1_beginQuarter_104, eX1_beginQuarter_107, eX1_beginQuarter_108, eX1_beginQuarter_109, eX1_beginQuarter_112, eX1_beginQuarter_115, eX1_beginQuarter_118, eX1_beginQuarter_121, eX1_beginQuarter_124, eX1_beginQuarter_125, one0, and_false, false_and, gk, gr, gi, gs, rv_some, ret_i, ret_n, Option.bind_some, List.cons_append, List.nil_append, z0, z1, zi, zj, i10, i01, true_or, or_true, eq_self, not_false_eq_true, not_true_eq_false, if_true, if_false, ite_not, Decidable.not_not, and_true, true_and, or_false, false_or, Nat.reduceLeDiff, Nat.reduceMod, Nat.reduceEqDiff]
  exact key1 nA 0 s I _ _ (by omega) hR hT Fr.rf
end CLS2

