/-! the day alone; pass -/
section PASS
variable {xl : Nat} {xs : Nat → Int32} {F : pm_F} {I : Nat → Nat → Int32} {N : Nat} {s s' x : St} {nA nH nR : Nat} {v w u : Int32}
theorem upd_c {k j : Nat} {a b : Int32} {f : Nat → Int32} (h : k ≠ j) : upd (upd f j b) k a = upd (upd f k a) j b := by
  funext i
  unfold upd
  by_cases h1 : i = k
  · rw [if_pos h1, if_neg (by omega), if_pos h1]
  · rw [if_neg h1, if_neg h1]
theorem dG {g : Nat} (h : g ≠ 0) : sG (sG x 0 v) g w = sG (sG x g w) 0 v := upd_c h
theorem dA {a j : Nat} : sA (sG x 0 v) a j w = sG (sA x a j w) 0 v := upd_c (by omega)
theorem dH {a j : Nat} : sH (sG x 0 v) a j w = sG (sH x a j w) 0 v := upd_c (by omega)
theorem dR {a j : Nat} : sR (sG x 0 v) a j w = sG (sR x a j w) 0 v := upd_c (by omega)
theorem d_ap (a j : Nat) : ap (sG x 0 v) a j = ap x a j := ap_sG (by decide)
theorem d_hp (a j : Nat) : hp (sG x 0 v) a j = hp x a j := hp_sG (by decide)
theorem d_rp (a j : Nat) : rp (sG x 0 v) a j = rp x a j := rp_sG (by decide)
theorem d_gp (g : Nat) (h : g ≠ 0) : gp (sG x 0 v) g = gp x g := by rw [gp_sG, if_neg h]
theorem d_al (a : Nat) : alG a (sG x 0 v) = sG (alG a x) 0 v := by
  unfold alG staS
  rw [d_ap, d_ap, d_gp 1 (by decide), dG (by decide), dA]
theorem d_price (r : Nat) : price (sG x 0 v) r = price x r := by
  unfold price prS
  rw [d_rp, d_rp, d_ap, d_gp 2 (by decide)]
theorem d_give (h : Nat) : giveS (sG x 0 v) h w = sG (giveS x h w) 0 v := by
  unfold giveS
  rw [d_hp, dH]
theorem d_sha (r o : Nat) (p a b : Int32) : shaG r p o (sG x 0 v, a, b) = (sG (shaG r p o (x, a, b)).1 0 v, (shaG r p o (x, a, b)).2) := by
  unfold shaG
  have eu : under (sG x 0 v) r o = under x r o := by
    show (rp (sG x 0 v) o 3 = 5 ∧ rp (sG x 0 v) o 5 = nI r) = (rp x o 3 = 5 ∧ rp x o 5 = nI r)
    rw [d_rp, d_rp]
  by_cases hc : b < 3 ∧ under x r o
  · rw [if_pos hc, if_pos (by rw [eu]; exact hc), d_rp, d_give]
  · rw [if_neg hc, if_neg (by rw [eu]; exact hc)]
theorem d_shas (r : Nat) (p a b : Int32) (n : Nat) : lp (shaG r p) 0 n (sG x 0 v, a, b) = (sG (lp (shaG r p) 0 n (x, a, b)).1 0 v, (lp (shaG r p) 0 n (x, a, b)).2) :=
  lp_rel (fun (y z : St × Int32 × Int32) => y = (sG z.1 0 v, z.2)) (shaG r p) (shaG r p) n (fun i y z hi h => by
    rw [h]
    exact d_sha r i p z.2.1 z.2.2) n 0 _ _ (by omega) rfl
theorem d_payB (r : Nat) (p : Int32) : payB (sG x 0 v) nR r p = sG (payB x nR r p) 0 v := by
  unfold payB
  rw [d_shas]
  dsimp only
  rw [d_rp, d_give]
theorem d_payA (r a : Nat) (p q : Int32) : payA (sG x 0 v) r a p q = sG (payA x r a p q) 0 v := by
  unfold payA
  rw [d_ap, d_gp 1 (by decide), d_gp 7 (by decide), dA, dG (by decide), dG (by decide), dR, dR]
theorem d_pays (r : Nat) : paysS (sG x 0 v) nR r = (sG (paysS x nR r).1 0 v, (paysS x nR r).2) := by
  unfold paysS ownS
  rw [d_price, d_rp, d_ap, d_gp 1 (by decide)]
  split
  · rw [dR]
  · rw [d_payA, d_payB]
theorem d_beg : begS (sG x 0 v) nA nR = (sG (begS x nA nR).1 0 v, (begS x nA nR).2) := by
  have h1 : lp alG 0 nA (sG x 0 v) = sG (lp alG 0 nA x) 0 v := lp_rel (fun (y z : St) => y = sG z 0 v) alG alG nA (fun i y z hi h => by
    rw [h]
    exact d_al i) nA 0 _ _ (by omega) rfl
  unfold begS
  rw [h1]
  refine lp_rel (fun (y z : St × Int32) => y = (sG z.1 0 v, z.2)) (begG nR) (begG nR) nR (fun i y z hi h => ?_) nR 0 _ _ (by omega) rfl
  rw [h]
  unfold begG
  dsimp only
  rw [d_rp, d_rp, d_pays]
  split <;> rfl
/-- a quarter of the class; a day of the model -/
def qG (nA nR : Nat) (_ : Nat) (x : St × Int32) : St × Int32 := ((begS x.1 nA nR).1, x.2 + (begS x.1 nA nR).2)
def dayG (nA nR : Nat) (_ : Nat) (x : St × Int32) : St × Int32 :=
  if gp x.1 0 + 1 - (gp x.1 0 + 1) / 90 * 90 = 0 then ((begS (sG x.1 0 (gp x.1 0 + 1)) nA nR).1, x.2 + (begS (sG x.1 0 (gp x.1 0 + 1)) nA nR).2) else (sG x.1 0 (gp x.1 0 + 1), x.2 + 0)
theorem d_qs (n : Nat) (c : Int32) : lp (qG nA nR) 0 n (sG x 0 v, c) = (sG (lp (qG nA nR) 0 n (x, c)).1 0 v, (lp (qG nA nR) 0 n (x, c)).2) :=
  lp_rel (fun (y z : St × Int32) => y = (sG z.1 0 v, z.2)) (qG nA nR) (qG nA nR) n (fun i y z hi h => by
    rw [h]
    unfold qG
    dsimp only
    rw [d_beg]) n 0 _ _ (by omega) rfl
theorem lp_last {σ : Type} (g : Nat → σ → σ) : ∀ (k i : Nat) (x : σ), lp g i (k + 1) x = g (i + k) (lp g i k x) := by
  intro k
  induction k with
  | zero => intro i x; rfl
  | succ k ih =>
    intro i x
    show lp g (i + 1) (k + 1) (g i x) = g (i + (k + 1)) (lp g (i + 1) k (g i x))
    rw [ih (i + 1) (g i x)]
    exact congrFun (congrArg g (by omega)) _
/-- days by days, or quarters at once -/
theorem days_q {d : Nat} (hd : gp s 0 = nI d) (n : Nat) (hn : d + n < 100000) : lp (dayG nA nR) 0 n (s, 0) = (sG (lp (qG nA nR) 0 ((d + n) / 90 - d / 90) (s, 0)).1 0 (nI (d + n)), (lp (qG nA nR) 0 ((d + n) / 90 - d / 90) (s, 0)).2) := by
  induction n with
  | zero =>
    have : (d + 0) / 90 - d / 90 = 0 := by omega
    rw [this]
    show (s, 0) = (sG s 0 (nI (d + 0)), 0)
    rw [show sG s 0 (nI (d + 0)) = s from by
      funext k
      unfold sG upd
      split
      · rename_i h; rw [h]; exact hd.symm
      · rfl]
  | succ n ih =>
    rw [lp_last, ih (by omega)]
    generalize hy : lp (qG nA nR) 0 ((d + n) / 90 - d / 90) (s, 0) = y
    have e1 : gp (sG y.1 0 (nI (d + n))) 0 + 1 = nI (d + (n + 1)) := by rw [gp_sG, if_pos rfl, nI_1]; rfl
    have e2 : nI (d + (n + 1)) - nI (d + (n + 1)) / 90 * 90 = nI ((d + (n + 1)) % 90) := pk_rem (d := 90) (by omega) (by omega) (by omega)
    have e3 : sG (sG y.1 0 (nI (d + n))) 0 (nI (d + (n + 1))) = sG y.1 0 (nI (d + (n + 1))) := by
      funext k
      unfold sG upd
      split <;> rfl
    unfold dayG
    dsimp only
    rw [e1, e2, e3]
    by_cases h : (d + (n + 1)) % 90 = 0
    · have e4 : (d + (n + 1)) / 90 - d / 90 = ((d + n) / 90 - d / 90) + 1 := by omega
      rw [if_pos (by rw [h]; rfl), e4, lp_last, hy, d_beg]
      rfl
    · have e4 : (d + (n + 1)) / 90 - d / 90 = ((d + n) / 90 - d / 90) := by omega
      have hne : ¬ nI ((d + (n + 1)) % 90) = 0 := fun q => h ((eq_iff (n := 0) (by omega) (by omega)).mp q)
      rw [if_neg hne, e4, hy, Int32.add_zero]
theorem Bd.wG0 {Rb Mb Nb : Nat} (b : Bd Rb Mb Nb s nA nH) (hv : vp_in v 10000) : Bd Rb Mb Nb (sG s 0 v) nA nH := by
  obtain ⟨b1, b2, b3, b4⟩ := b
  refine ⟨?_, fun q hq => ?_, fun q hq => ?_, fun q h1 h2 i hi => ?_⟩
  · rw [gp_sG, if_pos rfl, d_gp 1 (by decide), d_gp 2 (by decide), d_gp 3 (by decide)]
    exact ⟨hv, b1.2⟩
  · rw [d_ap, d_ap, d_ap]; exact b2 q hq
  · rw [d_hp, d_hp, d_hp, d_hp]; exact b3 q hq
  · rw [d_hp]; exact b4 q h1 h2 i hi
theorem q_inv {Rb Mb Nb : Nat} (hI : Iv s nA nH nR) (b : Bd Rb Mb Nb s nA nH) (n : Nat) (hR : Rb + 120000 * n < 100000000) (hM : Mb + 149760 * n < 2147483648) : Bd (Rb + 120000 * n) (Mb + 149760 * n) Nb (lp (qG nA nR) 0 n (s, 0)).1 nA nH ∧ Iv (lp (qG nA nR) 0 n (s, 0)).1 nA nH nR := by
  refine lp_inv (fun i (x : St × Int32) => Bd (Rb + 120000 * i) (Mb + 149760 * i) Nb x.1 nA nH ∧ Iv x.1 nA nH nR) (qG nA nR) n (fun i x hi h => ?_) n 0 (s, 0) (by omega) ⟨b, hI⟩
  exact ⟨(h.1.begs h.2 (by omega) (by omega)).mono (by omega) (by omega) (Nat.le_refl _), h.2.begs⟩
theorem FI.pass (hF : FI N s nA nH nR) (hN : N ≤ 2000) {d k : Nat} (hd : gp s 0 = nI d) (hk : k ≤ 400) (hdk : d + k < 10000) : FI (N + 1) (sG (lp (qG nA nR) 0 ((d + k) / 90 - d / 90) (s, 0)).1 0 (nI (d + k))) nA nH nR := by
  obtain ⟨b1, i1⟩ := q_inv hF.1 hF.2 ((d + k) / 90 - d / 90) (by rw [hd, show tn (nI d) = d from tn_n (by omega)]; omega) (by omega)
  refine ⟨i1.wG (by decide) (by decide) (by decide) (by decide), ?_⟩
  rw [gp_sG, if_pos rfl, show tn (nI (d + k)) = d + k from tn_n (by omega)]
  rw [hd, show tn (nI d) = d from tn_n (by omega)] at b1
  exact (b1.wG0 (in_n (by omega) (by omega))).mono (by omega) (by omega) (by omega)
theorem op_pass (hN : N + 1 ≤ 2000) (hD : LD F) (hM : LM F 583) (hF : Full N I) (v : Int32) : Step F N I (fun M => pm_ev tb xl xs mX4_pass 0 [some (.ref 0), some (.int v), none, none, none] [] M) (fun M => pm_ev tb xl xs mX5_pass 0 [some (.ref 583), some (.int v), none, none] [] M) := by
  have hFull := hF
  obtain ⟨n, m, H, nA, nH, nR, hR, hFI, hC, hMH⟩ := hF
  generalize hs : I 584 = s at hR hFI
  have hB := ldB hD
  have h6 := hFI.1.1.1.2
  have h8 := hFI.1.1.2.1.2
  have h40 := hFI.1.1.2.2.1.2
  have hnA := hFI.1.1.1.1
  have hnH := hFI.1.1.2.1.1
  have hnR := hFI.1.1.2.2.1.1
  have hn8 := hC.2.2.2.1
  have qA : I 1 3 = nI nA := (rbg3 hR).trans hnA
  have qH : I 1 4 = nI nH := (rbg4 hR).trans hnH
  have qR : I 1 5 = nI nR := (rbg5 hR).trans hnR
  have eI : row I 584 s = I := by rw [← hs]; exact row_self
  have hrb := hFI.rb
  by_cases h1 : v < 1 ∨ 400 < v
  · refine same (v := -10001) hFull ?_ ?_
    · simp only [eX4_pass_0, eX4_pass_1, eX4_pass_2, eX4_pass_5, eX4_pass_8, eX4_pass_11, eX4_pass_14, eX4_pass_15, eX4_pass_16, eX4_pass_19, eX4_pass_22, eX4_pass_23, eX4_pass_24, eX4_pass_27, eX4_pass_30, eX4_pass_33, eX4_pass_34, eX4_pass_35, eX4_pass_38, eX4_pass_39, eX4_pass_42, eX4_pass_45, eX4_pass_46, eX4_pass_47, eX4_pass_49, eX4_pass_50, eX4_pass_51, eX4_pass_54, eX4_pass_57, eX4_pass_59, eX4_pass_60, eX4_pass_61, eX4_pass_62, eX4_pass_63, eX4_pass_66, eX4_pass_67, eX4_pass_70, eX4_pass_71, eX4_pass_72, eX4_pass_75, eX4_pass_76, eX4_pass_77, eX4_pass_78, eX4_pass_82, eX4_pass_83, eX4_pass_86, eX4_pass_87, eX4_pass_88, eX4_pass_91, eX4_pass_94, eX4_pass_95, eX4_pass_96, eX4_pass_99, eX4_pass_102, eX4_pass_103, one0, and_false, false_and, gk, gr, gi, gs, rv_some, ret_i, ret_n, Option.bind_some, List.cons_append, List.nil_append, z0, z1, zi, zj, i10, i01, true_or, or_true, eq_self, not_false_eq_true, not_true_eq_false, if_true, if_false, ite_not, Decidable.not_not, and_true, true_and, or_false, false_or, Nat.reduceLeDiff, Nat.reduceMod, Nat.reduceEqDiff, ld0 hD, ld1 hD, ld2 hD, ld3 hD, ld4 hD, ld5 hD, ld6 hD, lb0 (ldB hD), lb1 (ldB hD), lb2 (ldB hD), lb3 (ldB hD), lb4 (ldB hD), lb5 (ldB hD), lb6 (ldB hD), X4_isOutside_ev, h1]
    · simp only [eX5_pass_0, eX5_pass_1, eX5_pass_2, eX5_pass_5, eX5_pass_8, eX5_pass_11, eX5_pass_14, eX5_pass_15, eX5_pass_16, eX5_pass_19, eX5_pass_20, eX5_pass_21, eX5_pass_22, eX5_pass_23, eX5_pass_26, eX5_pass_29, eX5_pass_32, eX5_pass_33, eX5_pass_34, eX5_pass_37, eX5_pass_38, eX5_pass_39, eX5_pass_40, eX5_pass_42, eX5_pass_43, eX5_pass_46, eX5_pass_47, eX5_pass_50, eX5_pass_51, eX5_pass_52, eX5_pass_53, eX5_pass_54, eX5_pass_55, eX5_pass_56, eX5_pass_57, eX5_pass_58, eX5_pass_61, eX5_pass_62, eX5_pass_63, eX5_pass_65, eX5_pass_66, eX5_pass_69, eX5_pass_70, eX5_pass_73, eX5_pass_76, eX5_pass_77, eX5_pass_78, eX5_pass_79, eX5_pass_82, eX5_pass_85, eX5_pass_86, one0, gk, gr, gj, gw, rv_some, ret_i, ret_n, Option.bind_some, List.cons_append, List.nil_append, z0, z1, zi, zj, i10, i01, row_s, row_row, true_or, or_true, eq_self, not_false_eq_true, not_true_eq_false, if_true, if_false, ite_not, Decidable.not_not, and_true, true_and, or_false, false_or, X5_in_ev, h1]
  · obtain ⟨k, rfl, hk1, hk2⟩ := rng_of (a := 1) (b := 400) (by omega) (by omega) h1
    obtain ⟨d, hd, hd0, -⟩ := vin hFI.2.1.1 (by omega)
    have qD : I 1 6 = nI d := (rbg6 hR).trans hd0
    have c1 : ((9999 : Int32) < nI (d + k)) = (9999 < d + k) := lt_iff (i := 9999) (by omega) (by omega)
    by_cases h2 : 9999 < d + k
    · refine same (v := -10002) hFull ?_ ?_
      · simp only [eX4_pass_0, eX4_pass_1, eX4_pass_2, eX4_pass_5, eX4_pass_8, eX4_pass_11, eX4_pass_14, eX4_pass_15, eX4_pass_16, eX4_pass_19, eX4_pass_22, eX4_pass_23, eX4_pass_24, eX4_pass_27, eX4_pass_30, eX4_pass_33, eX4_pass_34, eX4_pass_35, eX4_pass_38, eX4_pass_39, eX4_pass_42, eX4_pass_45, eX4_pass_46, eX4_pass_47, eX4_pass_49, eX4_pass_50, eX4_pass_51, eX4_pass_54, eX4_pass_57, eX4_pass_59, eX4_pass_60, eX4_pass_61, eX4_pass_62, eX4_pass_63, eX4_pass_66, eX4_pass_67, eX4_pass_70, eX4_pass_71, eX4_pass_72, eX4_pass_75, eX4_pass_76, eX4_pass_77, eX4_pass_78, eX4_pass_82, eX4_pass_83, eX4_pass_86, eX4_pass_87, eX4_pass_88, eX4_pass_91, eX4_pass_94, eX4_pass_95, eX4_pass_96, eX4_pass_99, eX4_pass_102, eX4_pass_103, one0, and_false, false_and, gk, gr, gi, gs, rv_some, ret_i, ret_n, Option.bind_some, List.cons_append, List.nil_append, z0, z1, zi, zj, i10, i01, true_or, or_true, eq_self, not_false_eq_true, not_true_eq_false, if_true, if_false, ite_not, Decidable.not_not, and_true, true_and, or_false, false_or, Nat.reduceLeDiff, Nat.reduceMod, Nat.reduceEqDiff, ld0 hD, ld1 hD, ld2 hD, ld3 hD, ld4 hD, ld5 hD, ld6 hD, lb0 (ldB hD), lb1 (ldB hD), lb2 (ldB hD), lb3 (ldB hD), lb4 (ldB hD), lb5 (ldB hD), lb6 (ldB hD), X4_isOutside_ev, h1, qD, nI_add, c1, h2]
      · rw [← eI]
        simp only [eX5_pass_0, eX5_pass_1, eX5_pass_2, eX5_pass_5, eX5_pass_8, eX5_pass_11, eX5_pass_14, eX5_pass_15, eX5_pass_16, eX5_pass_19, eX5_pass_20, eX5_pass_21, eX5_pass_22, eX5_pass_23, eX5_pass_26, eX5_pass_29, eX5_pass_32, eX5_pass_33, eX5_pass_34, eX5_pass_37, eX5_pass_38, eX5_pass_39, eX5_pass_40, eX5_pass_42, eX5_pass_43, eX5_pass_46, eX5_pass_47, eX5_pass_50, eX5_pass_51, eX5_pass_52, eX5_pass_53, eX5_pass_54, eX5_pass_55, eX5_pass_56, eX5_pass_57, eX5_pass_58, eX5_pass_61, eX5_pass_62, eX5_pass_63, eX5_pass_65, eX5_pass_66, eX5_pass_69, eX5_pass_70, eX5_pass_73, eX5_pass_76, eX5_pass_77, eX5_pass_78, eX5_pass_79, eX5_pass_82, eX5_pass_85, eX5_pass_86, one0, gk, gr, gj, gw, rv_some, ret_i, ret_n, Option.bind_some, List.cons_append, List.nil_append, z0, z1, zi, zj, i10, i01, row_s, row_row, true_or, or_true, eq_self, not_false_eq_true, not_true_eq_false, if_true, if_false, ite_not, Decidable.not_not, and_true, true_and, or_false, false_or, lm0 hM, lm1 hM, lm5 hM, ixG0, ixG1, ixG2, ixG3, ixG4, ixG5, ixG6, ixG7, ixG8, clG0, clG1, clG2, clG3, clG4, clG5, clG6, clG7, clG8, rdG0, rdG1, rdG2, rdG3, rdG4, rdG5, rdG6, rdG7, rdG8, wrG0, wrG1, wrG2, wrG3, wrG4, wrG5, wrG6, wrG7, wrG8, X5_in_ev, h1, hd0, nI_add, c1, h2]
    · have hdk : d + k < 10000 := by omega
      have hT := hFI.1
      have ed1 : nI (d + k) / 90 = nI ((d + k) / 90) := pk_div (d := 90) (by omega) (by omega) (by omega)
      have ed2 : nI d / 90 = nI (d / 90) := pk_div (d := 90) (by omega) (by omega) (by omega)
      have ed3 : nI ((d + k) / 90) - nI (d / 90) = nI ((d + k) / 90 - d / 90) := pk_sub (by omega)
      have hq5 : (d + k) / 90 - d / 90 < 1000 := by omega
      refine deed (v := (lp (qG nA nR) 0 ((d + k) / 90 - d / 90) (s, 0)).2) (s' := sG (lp (qG nA nR) 0 ((d + k) / 90 - d / 90) (s, 0)).1 0 (nI (d + k))) (nA' := nA) (nH' := nH) (nR' := nR) hs hR hFI hC hMH (hFI.pass (by omega) hd0 hk2 hdk) ?_ ?_
      · obtain ⟨J, m', e, ⟨hRJ, hCJ⟩, hk⟩ := X4_remember_ev (xl := xl) (xs := xs) hD hR hFI hC
        have jD : J 1 6 = nI d := (rbg6 hRJ).trans hd0
        generalize (d + k) / 90 - d / 90 = q at ed3 hq5
        have key : ∀ n i (x : St × Int32) (K : Nat → Nat → Int32), i + n = q → RB K 1 x.1 nA nH nR → Iv x.1 nA nH nR → ∃ L, pm_ev tb xl xs mX4_pass 80 [some (.ref 0), some (.int (nI k)), some (.int (nI q)), some (.int x.2), some (.int (nI i))] [] (pm_G F K) = some (some (.int (lp (qG nA nR) i n x).2), pm_G F L) ∧ RB L 1 (lp (qG nA nR) i n x).1 nA nH nR ∧ Fr K L 1 := by
          intro n
          induction n with
          | zero =>
            intro i x K hi hRK hIx
            refine ⟨K, ?_, hRK, Fr.rf⟩
            rw [eX4_pass_80]
            simp only [eX4_pass_0, eX4_pass_1, eX4_pass_2, eX4_pass_5, eX4_pass_8, eX4_pass_11, eX4_pass_14, eX4_pass_15, eX4_pass_16, eX4_pass_19, eX4_pass_22, eX4_pass_23, eX4_pass_24, eX4_pass_27, eX4_pass_30, eX4_pass_33, eX4_pass_34, eX4_pass_35, eX4_pass_38, eX4_pass_39, eX4_pass_42, eX4_pass_45, eX4_pass_46, eX4_pass_47, eX4_pass_49, eX4_pass_50, eX4_pass_51, eX4_pass_54, eX4_pass_57, eX4_pass_59, eX4_pass_60, eX4_pass_61, eX4_pass_62, eX4_pass_63, eX4_pass_66, eX4_pass_67, eX4_pass_70, eX4_pass_71, eX4_pass_72, eX4_pass_75, eX4_pass_76, eX4_pass_77, eX4_pass_78, eX4_pass_82, eX4_pass_83, eX4_pass_86, eX4_pass_87, eX4_pass_88, eX4_pass_91, eX4_pass_94, eX4_pass_95, eX4_pass_96, eX4_pass_99, eX4_pass_102, eX4_pass_103, one0, and_false, false_and, gk, gr, gi, gs, rv_some, ret_i, ret_n, Option.bind_some, List.cons_append, List.nil_append, z0, z1, zi, zj, i10, i01, true_or, or_true, eq_self, not_false_eq_true, not_true_eq_false, if_true, if_false, ite_not, Decidable.not_not, and_true, true_and, or_false, false_or, Nat.reduceLeDiff, Nat.reduceMod, Nat.reduceEqDiff, lt_f (show q ≤ i by omega) (show i < 2147483648 by omega), lp]
          | succ n ih =>
            intro i x K hi hRK hIx
            obtain ⟨L, e3, hRL, hFL⟩ := X1_beginQuarter_ev (xl := xl) (xs := xs) hB hRK hIx
            obtain ⟨P, e4, hRP, hFP⟩ := ih (i + 1) (qG nA nR i x) L (by omega) hRL hIx.begs
            refine ⟨P, ?_, hRP, hFL.tr hFP⟩
            rw [eX4_pass_80]
            simp only [eX4_pass_0, eX4_pass_1, eX4_pass_2, eX4_pass_5, eX4_pass_8, eX4_pass_11, eX4_pass_14, eX4_pass_15, eX4_pass_16, eX4_pass_19, eX4_pass_22, eX4_pass_23, eX4_pass_24, eX4_pass_27, eX4_pass_30, eX4_pass_33, eX4_pass_34, eX4_pass_35, eX4_pass_38, eX4_pass_39, eX4_pass_42, eX4_pass_45, eX4_pass_46, eX4_pass_47, eX4_pass_49, eX4_pass_50, eX4_pass_51, eX4_pass_54, eX4_pass_57, eX4_pass_59, eX4_pass_60, eX4_pass_61, eX4_pass_62, eX4_pass_63, eX4_pass_66, eX4_pass_67, eX4_pass_70, eX4_pass_71, eX4_pass_72, eX4_pass_75, eX4_pass_76, eX4_pass_77, eX4_pass_78, eX4_pass_82, eX4_pass_83, eX4_pass_86, eX4_pass_87, eX4_pass_88, eX4_pass_91, eX4_pass_94, eX4_pass_95, eX4_pass_96, eX4_pass_99, eX4_pass_102, eX4_pass_103, one0, and_false, false_and, gk, gr, gi, gs, rv_some, ret_i, ret_n, Option.bind_some, List.cons_append, List.nil_append, z0, z1, zi, zj, i10, i01, true_or, or_true, eq_self, not_false_eq_true, not_true_eq_false, if_true, if_false, ite_not, Decidable.not_not, and_true, true_and, or_false, false_or, Nat.reduceLeDiff, Nat.reduceMod, Nat.reduceEqDiff, ld0 hD, ld1 hD, ld2 hD, ld3 hD, ld4 hD, ld5 hD, ld6 hD, lb0 (ldB hD), lb1 (ldB hD), lb2 (ldB hD), lb3 (ldB hD), lb4 (ldB hD), lb5 (ldB hD), lb6 (ldB hD), lt_t (show i < q by omega) (show q < 2147483648 by omega), e3, nI_1]
            exact e4
        have hk1 : 1 ≤ 1 ∧ 1 < 1 + 58 := by omega
        obtain ⟨L, e3, hRL, hFL⟩ := key q 0 (sG s 0 (nI (d + k)), 0) (pm_u2 J 1 6 (nI (d + k))) (by omega) (hRJ.wg6 h6 h8 h40) (hT.wG (by decide) (by decide) (by decide) (by decide))
        obtain ⟨g1, g2⟩ := behind (K := L) hCJ hk ((Fr.rf.u2 hk1).tr hFL)
        rw [d_qs] at e3 hRL
        refine ⟨L, m', ?_, ⟨hRL, g1⟩, g2⟩
        simp only [eX4_pass_0, eX4_pass_1, eX4_pass_2, eX4_pass_5, eX4_pass_8, eX4_pass_11, eX4_pass_14, eX4_pass_15, eX4_pass_16, eX4_pass_19, eX4_pass_22, eX4_pass_23, eX4_pass_24, eX4_pass_27, eX4_pass_30, eX4_pass_33, eX4_pass_34, eX4_pass_35, eX4_pass_38, eX4_pass_39, eX4_pass_42, eX4_pass_45, eX4_pass_46, eX4_pass_47, eX4_pass_49, eX4_pass_50, eX4_pass_51, eX4_pass_54, eX4_pass_57, eX4_pass_59, eX4_pass_60, eX4_pass_61, eX4_pass_62, eX4_pass_63, eX4_pass_66, eX4_pass_67, eX4_pass_70, eX4_pass_71, eX4_pass_72, eX4_pass_75, eX4_pass_76, eX4_pass_77, eX4_pass_78, eX4_pass_82, eX4_pass_83, eX4_pass_86, eX4_pass_87, eX4_pass_88, eX4_pass_91, eX4_pass_94, eX4_pass_95, eX4_pass_96, eX4_pass_99, eX4_pass_102, eX4_pass_103, one0, and_false, false_and, gk, gr, gi, gs, rv_some, ret_i, ret_n, Option.bind_some, List.cons_append, List.nil_append, z0, z1, zi, zj, i10, i01, true_or, or_true, eq_self, not_false_eq_true, not_true_eq_false, if_true, if_false, ite_not, Decidable.not_not, and_true, true_and, or_false, false_or, Nat.reduceLeDiff, Nat.reduceMod, Nat.reduceEqDiff, ld0 hD, ld1 hD, ld2 hD, ld3 hD, ld4 hD, ld5 hD, ld6 hD, lb0 (ldB hD), lb1 (ldB hD), lb2 (ldB hD), lb3 (ldB hD), lb4 (ldB hD), lb5 (ldB hD), lb6 (ldB hD), X4_isOutside_ev, h1, qD, jD, nI_add, c1, h2, e, d90, ed1, ed2, ed3]
        exact e3
      · intro J hJ; obtain ⟨J', e, hJ', hk⟩ := X5_keeps_ev (xl := xl) (xs := xs) (s := s) hM hJ hn8
        refine ⟨J', ?_, hJ', hk⟩
        have h1' := lp_ev k (fun i (x : St × Int32) => pm_ev tb xl xs mX5_pass 41 [some (.ref 583), some (.int (nI k)), some (.int x.2), some (.int (nI i))] [] (pm_G F (row J' 584 x.1))) (fun _ x => Ty x.1 nA nH nR) (dayG nA nR) (fun i x hi hx => by
          have hx2 : Ty (sG x.1 0 (gp x.1 0 + 1)) nA nH nR := hx.sG (by decide) (by decide) (by decide) (by decide)
          show pm_ev tb xl xs mX5_pass 41 [some (.ref 583), some (.int (nI k)), some (.int x.2), some (.int (nI i))] [] (pm_G F (row J' 584 x.1)) = _ ∧ _
          rw [eX5_pass_41]
          unfold dayG
          by_cases hc : gp x.1 0 + 1 - (gp x.1 0 + 1) / 90 * 90 = 0
          · simp only [eX5_pass_0, eX5_pass_1, eX5_pass_2, eX5_pass_5, eX5_pass_8, eX5_pass_11, eX5_pass_14, eX5_pass_15, eX5_pass_16, eX5_pass_19, eX5_pass_20, eX5_pass_21, eX5_pass_22, eX5_pass_23, eX5_pass_26, eX5_pass_29, eX5_pass_32, eX5_pass_33, eX5_pass_34, eX5_pass_37, eX5_pass_38, eX5_pass_39, eX5_pass_40, eX5_pass_42, eX5_pass_43, eX5_pass_46, eX5_pass_47, eX5_pass_50, eX5_pass_51, eX5_pass_52, eX5_pass_53, eX5_pass_54, eX5_pass_55, eX5_pass_56, eX5_pass_57, eX5_pass_58, eX5_pass_61, eX5_pass_62, eX5_pass_63, eX5_pass_65, eX5_pass_66, eX5_pass_69, eX5_pass_70, eX5_pass_73, eX5_pass_76, eX5_pass_77, eX5_pass_78, eX5_pass_79, eX5_pass_82, eX5_pass_85, eX5_pass_86, one0, gk, gr, gj, gw, rv_some, ret_i, ret_n, Option.bind_some, List.cons_append, List.nil_append, z0, z1, zi, zj, i10, i01, row_s, row_row, true_or, or_true, eq_self, not_false_eq_true, not_true_eq_false, if_true, if_false, ite_not, Decidable.not_not, and_true, true_and, or_false, false_or, lm0 hM, lm1 hM, lm5 hM, ixG0, ixG1, ixG2, ixG3, ixG4, ixG5, ixG6, ixG7, ixG8, clG0, clG1, clG2, clG3, clG4, clG5, clG6, clG7, clG8, rdG0, rdG1, rdG2, rdG3, rdG4, rdG5, rdG6, rdG7, rdG8, wrG0, wrG1, wrG2, wrG3, wrG4, wrG5, wrG6, wrG7, wrG8, gp_sG, gp_sA, gp_sH, gp_sR, ap_sG, ap_sA, ap_sH, ap_sR, hp_sG, hp_sA, hp_sH, hp_sR, rp_sG, rp_sA, rp_sH, rp_sR, Nat.reduceLT, Nat.reduceEqDiff, lt_t hi (show k < 2147483648 by omega), d90, hc, X5_begins_ev hM hx2, nI_1]
            exact hx2.begs
          · simp only [eX5_pass_0, eX5_pass_1, eX5_pass_2, eX5_pass_5, eX5_pass_8, eX5_pass_11, eX5_pass_14, eX5_pass_15, eX5_pass_16, eX5_pass_19, eX5_pass_20, eX5_pass_21, eX5_pass_22, eX5_pass_23, eX5_pass_26, eX5_pass_29, eX5_pass_32, eX5_pass_33, eX5_pass_34, eX5_pass_37, eX5_pass_38, eX5_pass_39, eX5_pass_40, eX5_pass_42, eX5_pass_43, eX5_pass_46, eX5_pass_47, eX5_pass_50, eX5_pass_51, eX5_pass_52, eX5_pass_53, eX5_pass_54, eX5_pass_55, eX5_pass_56, eX5_pass_57, eX5_pass_58, eX5_pass_61, eX5_pass_62, eX5_pass_63, eX5_pass_65, eX5_pass_66, eX5_pass_69, eX5_pass_70, eX5_pass_73, eX5_pass_76, eX5_pass_77, eX5_pass_78, eX5_pass_79, eX5_pass_82, eX5_pass_85, eX5_pass_86, one0, gk, gr, gj, gw, rv_some, ret_i, ret_n, Option.bind_some, List.cons_append, List.nil_append, z0, z1, zi, zj, i10, i01, row_s, row_row, true_or, or_true, eq_self, not_false_eq_true, not_true_eq_false, if_true, if_false, ite_not, Decidable.not_not, and_true, true_and, or_false, false_or, lm0 hM, lm1 hM, lm5 hM, ixG0, ixG1, ixG2, ixG3, ixG4, ixG5, ixG6, ixG7, ixG8, clG0, clG1, clG2, clG3, clG4, clG5, clG6, clG7, clG8, rdG0, rdG1, rdG2, rdG3, rdG4, rdG5, rdG6, rdG7, rdG8, wrG0, wrG1, wrG2, wrG3, wrG4, wrG5, wrG6, wrG7, wrG8, gp_sG, gp_sA, gp_sH, gp_sR, ap_sG, ap_sA, ap_sH, ap_sR, hp_sG, hp_sA, hp_sH, hp_sR, rp_sG, rp_sA, rp_sH, rp_sR, Nat.reduceLT, Nat.reduceEqDiff, lt_t hi (show k < 2147483648 by omega), d90, hc, nI_1]
            exact hx2) k 0 (s, 0) (by omega) hFI.1.1
        rw [days_q hd0 k (by omega)] at h1'
        simp only [eX5_pass_0, eX5_pass_1, eX5_pass_2, eX5_pass_5, eX5_pass_8, eX5_pass_11, eX5_pass_14, eX5_pass_15, eX5_pass_16, eX5_pass_19, eX5_pass_20, eX5_pass_21, eX5_pass_22, eX5_pass_23, eX5_pass_26, eX5_pass_29, eX5_pass_32, eX5_pass_33, eX5_pass_34, eX5_pass_37, eX5_pass_38, eX5_pass_39, eX5_pass_40, eX5_pass_42, eX5_pass_43, eX5_pass_46, eX5_pass_47, eX5_pass_50, eX5_pass_51, eX5_pass_52, eX5_pass_53, eX5_pass_54, eX5_pass_55, eX5_pass_56, eX5_pass_57, eX5_pass_58, eX5_pass_61, eX5_pass_62, eX5_pass_63, eX5_pass_65, eX5_pass_66, eX5_pass_69, eX5_pass_70, eX5_pass_73, eX5_pass_76, eX5_pass_77, eX5_pass_78, eX5_pass_79, eX5_pass_82, eX5_pass_85, eX5_pass_86, one0, gk, gr, gj, gw, rv_some, ret_i, ret_n, Option.bind_some, List.cons_append, List.nil_append, z0, z1, zi, zj, i10, i01, row_s, row_row, true_or, or_true, eq_self, not_false_eq_true, not_true_eq_false, if_true, if_false, ite_not, Decidable.not_not, and_true, true_and, or_false, false_or, lm0 hM, lm1 hM, lm5 hM, ixG0, ixG1, ixG2, ixG3, ixG4, ixG5, ixG6, ixG7, ixG8, clG0, clG1, clG2, clG3, clG4, clG5, clG6, clG7, clG8, rdG0, rdG1, rdG2, rdG3, rdG4, rdG5, rdG6, rdG7, rdG8, wrG0, wrG1, wrG2, wrG3, wrG4, wrG5, wrG6, wrG7, wrG8, X5_in_ev, h1, hd0, nI_add, c1, h2, e]
        refine Eq.trans h1'.1 ?_
        show pm_ev tb xl xs mX5_pass 41 [some (.ref 583), some (.int (nI k)), some (.int _), some (.int (nI k))] [] (pm_G F (row J' 584 _)) = _
        rw [eX5_pass_41]
        simp only [eX5_pass_0, eX5_pass_1, eX5_pass_2, eX5_pass_5, eX5_pass_8, eX5_pass_11, eX5_pass_14, eX5_pass_15, eX5_pass_16, eX5_pass_19, eX5_pass_20, eX5_pass_21, eX5_pass_22, eX5_pass_23, eX5_pass_26, eX5_pass_29, eX5_pass_32, eX5_pass_33, eX5_pass_34, eX5_pass_37, eX5_pass_38, eX5_pass_39, eX5_pass_40, eX5_pass_42, eX5_pass_43, eX5_pass_46, eX5_pass_47, eX5_pass_50, eX5_pass_51, eX5_pass_52, eX5_pass_53, eX5_pass_54, eX5_pass_55, eX5_pass_56, eX5_pass_57, eX5_pass_58, eX5_pass_61, eX5_pass_62, eX5_pass_63, eX5_pass_65, eX5_pass_66, eX5_pass_69, eX5_pass_70, eX5_pass_73, eX5_pass_76, eX5_pass_77, eX5_pass_78, eX5_pass_79, eX5_pass_82, eX5_pass_85, eX5_pass_86, one0, gk, gr, gj, gw, rv_some, ret_i, ret_n, Option.bind_some, List.cons_append, List.nil_append, z0, z1, zi, zj, i10, i01, row_s, row_row, true_or, or_true, eq_self, not_false_eq_true, not_true_eq_false, if_true, if_false, ite_not, Decidable.not_not, and_true, true_and, or_false, false_or, lt_f (Nat.le_refl k) (show k < 2147483648 by omega)]
end PASS
