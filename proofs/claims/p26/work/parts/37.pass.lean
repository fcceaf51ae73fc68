/-! the day alone; pass -/
section PASS
variable {xl : Nat} {xs : Nat → Int32} {F : pm_F} {I : Nat → Nat → Int32} {N : Nat} {s s' x : St} {nA nH nR : Nat} {v w u : Int32}
theorem upd_c {k j : Nat} {a b : Int32} {f : Nat → Int32} (h : k ≠ j) : upd (upd f j b) k a = upd (upd f k a) j b := by
  funext i
  unfold upd
  by_cases h1 : i = k
  · rw [if_pos h1, if_neg (by omega), if_pos h1]
  · rw [if_neg h1, if_neg h1]
theorem dG {g : Nat} (h : g ≠ 0) : sG (sG x 0 v) g w = sG (sG x g w) 0 v := upd_c h
theorem dA {a j : Nat} : sA (sG x 0 v) a j w = sG (sA x a j w) 0 v := upd_c (by omega)
theorem dH {a j : Nat} : sH (sG x 0 v) a j w = sG (sH x a j w) 0 v := upd_c (by omega)
theorem dR {a j : Nat} : sR (sG x 0 v) a j w = sG (sR x a j w) 0 v := upd_c (by omega)
theorem d_ap (a j : Nat) : ap (sG x 0 v) a j = ap x a j := ap_sG (by decide)
theorem d_hp (a j : Nat) : hp (sG x 0 v) a j = hp x a j := hp_sG (by decide)
theorem d_rp (a j : Nat) : rp (sG x 0 v) a j = rp x a j := rp_sG (by decide)
theorem d_gp (g : Nat) (h : g ≠ 0) : gp (sG x 0 v) g = gp x g := by rw [gp_sG, if_neg h]
theorem d_al (a : Nat) : alG a (sG x 0 v) = sG (alG a x) 0 v := by
  unfold alG staS
  rw [d_ap, d_ap, d_gp 1 (by decide), dG (by decide), dA]
theorem d_price (r : Nat) : price (sG x 0 v) r = price x r := by
  unfold price prS
  rw [d_rp, d_rp, d_ap, d_gp 2 (by decide)]
theorem d_give (h : Nat) : giveS (sG x 0 v) h w = sG (giveS x h w) 0 v := by
  unfold giveS
  rw [d_hp, dH]
theorem d_sha (r o : Nat) (p a b : Int32) : shaG r p o (sG x 0 v, a, b) = (sG (shaG r p o (x, a, b)).1 0 v, (shaG r p o (x, a, b)).2) := by
  unfold shaG
  have eu : under (sG x 0 v) r o = under x r o := by
    show (rp (sG x 0 v) o 3 = 5 ∧ rp (sG x 0 v) o 5 = nI r) = (rp x o 3 = 5 ∧ rp x o 5 = nI r)
    rw [d_rp, d_rp]
  by_cases hc : b < 3 ∧ under x r o
  · rw [if_pos hc, if_pos (by rw [eu]; exact hc), d_rp, d_give]
  · rw [if_neg hc, if_neg (by rw [eu]; exact hc)]
theorem d_shas (r : Nat) (p a b : Int32) (n : Nat) : lp (shaG r p) 0 n (sG x 0 v, a, b) = (sG (lp (shaG r p) 0 n (x, a, b)).1 0 v, (lp (shaG r p) 0 n (x, a, b)).2) :=
  lp_rel (fun (y z : St × Int32 × Int32) => y = (sG z.1 0 v, z.2)) (shaG r p) (shaG r p) n (fun i y z hi h => by
    rw [h]
    exact d_sha r i p z.2.1 z.2.2) n 0 _ _ (by omega) rfl
theorem d_payB (r : Nat) (p : Int32) : payB (sG x 0 v) nR r p = sG (payB x nR r p) 0 v := by
  unfold payB
  rw [d_shas]
  dsimp only
  rw [d_rp, d_give]
theorem d_payA (r a : Nat) (p q : Int32) : payA (sG x 0 v) r a p q = sG (payA x r a p q) 0 v := by
  unfold payA
  rw [d_ap, d_gp 1 (by decide), d_gp 7 (by decide), dA, dG (by decide), dG (by decide), dR, dR]
theorem d_pays (r : Nat) : paysS (sG x 0 v) nR r = (sG (paysS x nR r).1 0 v, (paysS x nR r).2) := by
  unfold paysS ownS
  rw [d_price, d_rp, d_ap, d_gp 1 (by decide)]
  split
  · rw [dR]
  · rw [d_payA, d_payB]
theorem d_beg : begS (sG x 0 v) nA nR = (sG (begS x nA nR).1 0 v, (begS x nA nR).2) := by
  have h1 : lp alG 0 nA (sG x 0 v) = sG (lp alG 0 nA x) 0 v := lp_rel (fun (y z : St) => y = sG z 0 v) alG alG nA (fun i y z hi h => by
    rw [h]
    exact d_al i) nA 0 _ _ (by omega) rfl
  unfold begS
  rw [h1]
  refine lp_rel (fun (y z : St × Int32) => y = (sG z.1 0 v, z.2)) (begG nR) (begG nR) nR (fun i y z hi h => ?_) nR 0 _ _ (by omega) rfl
  rw [h]
  unfold begG
  dsimp only
  rw [d_rp, d_rp, d_pays]
  split <;> rfl
/-- a quarter of the class; a day of the model -/
def qG (nA nR : Nat) (_ : Nat) (x : St × Int32) : St × Int32 := ((begS x.1 nA nR).1, x.2 + (begS x.1 nA nR).2)
def dayG (nA nR : Nat) (_ : Nat) (x : St × Int32) : St × Int32 :=
  if gp x.1 0 + 1 - (gp x.1 0 + 1) / 90 * 90 = 0 then ((begS (sG x.1 0 (gp x.1 0 + 1)) nA nR).1, x.2 + (begS (sG x.1 0 (gp x.1 0 + 1)) nA nR).2) else (sG x.1 0 (gp x.1 0 + 1), x.2 + 0)
theorem d_qs (n : Nat) (c : Int32) : lp (qG nA nR) 0 n (sG x 0 v, c) = (sG (lp (qG nA nR) 0 n (x, c)).1 0 v, (lp (qG nA nR) 0 n (x, c)).2) :=
  lp_rel (fun (y z : St × Int32) => y = (sG z.1 0 v, z.2)) (qG nA nR) (qG nA nR) n (fun i y z hi h => by
    rw [h]
    unfold qG
    dsimp only
    rw [d_beg]) n 0 _ _ (by omega) rfl
theorem lp_last {σ : Type} (g : Nat → σ → σ) : ∀ (k i : Nat) (x : σ), lp g i (k + 1) x = g (i + k) (lp g i k x) := by
  intro k
  induction k with
  | zero => intro i x; rfl
  | succ k ih =>
    intro i x
    show lp g (i + 1) (k + 1) (g i x) = g (i + (k + 1)) (lp g (i + 1) k (g i x))
    rw [ih (i + 1) (g i x)]
    exact congrFun (congrArg g (by omega)) _
/-- days by days, or quarters at once -/
theorem days_q {d : Nat} (hd : gp s 0 = nI d) (n : Nat) (hn : d + n < 100000) : lp (dayG nA nR) 0 n (s, 0) = (sG (lp (qG nA nR) 0 ((d + n) / 90 - d / 90) (s, 0)).1 0 (nI (d + n)), (lp (qG nA nR) 0 ((d + n) / 90 - d / 90) (s, 0)).2) := by
  induction n with
  | zero =>
    have : (d + 0) / 90 - d / 90 = 0 := by omega
    rw [this]
    show (s, 0) = (sG s 0 (nI (d + 0)), 0)
    rw [show sG s 0 (nI (d + 0)) = s from by
      funext k
      unfold sG upd
      split
      · rename_i h; rw [h]; exact hd.symm
      · rfl]
  | succ n ih =>
    rw [lp_last, ih (by omega)]
    generalize hy : lp (qG nA nR) 0 ((d + n) / 90 - d / 90) (s, 0) = y
    have e1 : gp (sG y.1 0 (nI (d + n))) 0 + 1 = nI (d + (n + 1)) := by rw [gp_sG, if_pos rfl, nI_1]; rfl
    have e2 : nI (d + (n + 1)) - nI (d + (n + 1)) / 90 * 90 = nI ((d + (n + 1)) % 90) := pk_rem (d := 90) (by omega) (by omega) (by omega)
    have e3 : sG (sG y.1 0 (nI (d + n))) 0 (nI (d + (n + 1))) = sG y.1 0 (nI (d + (n + 1))) := by
      funext k
      unfold sG upd
      split <;> rfl
    unfold dayG
    dsimp only
    rw [e1, e2, e3]
    by_cases h : (d + (n + 1)) % 90 = 0
    · have e4 : (d + (n + 1)) / 90 - d / 90 = ((d + n) / 90 - d / 90) + 1 := by omega
      rw [if_pos (by rw [h]; rfl), e4, lp_last, hy, d_beg]
      rfl
    · have e4 : (d + (n + 1)) / 90 - d / 90 = ((d + n) / 90 - d / 90) := by omega
      have hne : ¬ nI ((d + (n + 1)) % 90) = 0 := fun q => h ((eq_iff (n := 0) (by omega) (by omega)).mp q)
      rw [if_neg hne, e4, hy, Int32.add_zero]
theorem Bd.wG0 {Rb Mb Nb : Nat} (b : Bd Rb Mb Nb s nA nH) (hv : vp_in v 10000) : Bd Rb Mb Nb (sG s 0 v) nA nH := by
  obtain ⟨b1, b2, b3, b4⟩ := b
  refine ⟨?_, fun q hq => ?_, fun q hq => ?_, fun q h1 h2 i hi => ?_⟩
  · rw [gp_sG, if_pos rfl, d_gp 1 (by decide), d_gp 2 (by decide), d_gp 3 (by decide)]
    exact ⟨hv, b1.2⟩
  · rw [d_ap, d_ap, d_ap]; exact b2 q hq
  · rw [d_hp, d_hp, d_hp, d_hp]; exact b3 q hq
  · rw [d_hp]; exact b4 q h1 h2 i hi
theorem q_inv {Rb Mb Nb : Nat} (hI : Iv s nA nH nR) (b : Bd Rb Mb Nb s nA nH) (n : Nat) (hR : Rb + 120000 * n < 100000000) (hM : Mb + 149760 * n < 2147483648) : Bd (Rb + 120000 * n) (Mb + 149760 * n) Nb (lp (qG nA nR) 0 n (s, 0)).1 nA nH ∧ Iv (lp (qG nA nR) 0 n (s, 0)).1 nA nH nR := by
  refine lp_inv (fun i (x : St × Int32) => Bd (Rb + 120000 * i) (Mb + 149760 * i) Nb x.1 nA nH ∧ Iv x.1 nA nH nR) (qG nA nR) n (fun i x hi h => ?_) n 0 (s, 0) (by omega) ⟨b, hI⟩
  exact ⟨(h.1.begs h.2 (by omega) (by omega)).mono (by omega) (by omega) (Nat.le_refl _), h.2.begs⟩
theorem FI.pass (hF : FI N s nA nH nR) (hN : N ≤ 2000) {d k : Nat} (hd : gp s 0 = nI d) (hk : k ≤ 400) (hdk : d + k < 10000) : FI (N + 1) (sG (lp (qG nA nR) 0 ((d + k) / 90 - d / 90) (s, 0)).1 0 (nI (d + k))) nA nH nR := by
  obtain ⟨b1, i1⟩ := q_inv hF.1 hF.2 ((d + k) / 90 - d / 90) (by rw [hd, show tn (nI d) = d from tn_n (by omega)]; omega) (by omega)
  refine ⟨i1.wG (by decide) (by decide) (by decide) (by decide), ?_⟩
  rw [gp_sG, if_pos rfl, show tn (nI (d + k)) = d + k from tn_n (by omega)]
  rw [hd, show tn (nI d) = d from tn_n (by omega)] at b1
  exact (b1.wG0 (in_n (by omega) (by omega))).mono (by omega) (by omega) (by omega)
end PASS

