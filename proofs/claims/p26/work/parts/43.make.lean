/-! what the constructors make -/
def FF (M : pm_H) : pm_F := (M.1, M.2.1, M.2.2.1, M.2.2.2.1)
theorem G_FF (M : pm_H) : pm_G (FF M) (pm_is M) = M := rfl
section MAKE
variable {xl : Nat} {xs : Nat → Int32} {M X Y Z : pm_H} {o b k n a j i T : Nat}
theorem nk : pm_k (pm_new M k n) a = if a = M.1 then (k, n) else pm_k M a := rfl
theorem nr : pm_rs (pm_new M k n) a j = if a = M.1 then none else pm_rs M a j := by
  unfold pm_new pm_rs
  dsimp only
theorem ni : pm_is (pm_new M k n) a j = if a = M.1 then 0 else pm_is M a j := by
  unfold pm_new pm_is
  dsimp only
theorem rk {v : Option Nat} : pm_k (pm_setR M b i v) a = pm_k M a := rfl
theorem rr {v : Option Nat} : pm_rs (pm_setR M b i v) a j = if a = b ∧ j = i then v else pm_rs M a j := rfl
theorem ri {v : Option Nat} : pm_is (pm_setR M b i v) a j = pm_is M a j := rfl
theorem ik {v : Int32} : pm_k (pm_setI M b i v) a = pm_k M a := rfl
theorem ir {v : Int32} : pm_rs (pm_setI M b i v) a j = pm_rs M a j := rfl
theorem ii {v : Int32} : pm_is (pm_setI M b i v) a j = if a = b ∧ j = i then v else pm_is M a j := rfl
theorem n1 : (pm_new M k n).1 = M.1 + 1 := rfl
theorem n2 : (pm_new M k n).2.1 = M.2.1 + n := rfl
theorem r1 {v : Option Nat} : (pm_setR M b i v).1 = M.1 := rfl
theorem r2 {v : Option Nat} : (pm_setR M b i v).2.1 = M.2.1 := rfl
theorem j1 {v : Int32} : (pm_setI M b i v).1 = M.1 := rfl
theorem j2 {v : Int32} : (pm_setI M b i v).2.1 = M.2.1 := rfl
/-- an array of rows -/
def Blk (X : pm_H) (b kA nA kE wE i : Nat) : Prop := pm_k X b = (kA, nA) ∧ ∀ j, j < i → pm_rs X b j = some (b + 1 + j) ∧ pm_k X (b + 1 + j) = (kE, wE)
/-- all below is as it was -/
def Old (M X : pm_H) (b : Nat) : Prop := ∀ a, a < b → pm_k X a = pm_k M a ∧ (∀ j, pm_rs X a j = pm_rs M a j) ∧ ∀ j, pm_is X a j = pm_is M a j
theorem Old.rf : Old M M b := fun _ _ => ⟨rfl, fun _ => rfl, fun _ => rfl⟩
theorem Old.tr (h : Old M X b) (h2 : Old X Y b) : Old M Y b := fun a ha => ⟨(h2 a ha).1.trans (h a ha).1, fun j => ((h2 a ha).2.1 j).trans ((h a ha).2.1 j), fun j => ((h2 a ha).2.2 j).trans ((h a ha).2.2 j)⟩
theorem Old.le (h : Old M X b) (hc : n ≤ b) : Old M X n := fun a ha => h a (by omega)
theorem Blk.old {kA nA kE wE : Nat} (h : Blk X b kA nA kE wE i) (h2 : Old X Y n) (hn : b + i + 1 ≤ n) : Blk Y b kA nA kE wE i :=
  ⟨(h2 b (by omega)).1.trans h.1, fun j hj => ⟨((h2 b (by omega)).2.1 j).trans (h.2 j hj).1, (h2 _ (by omega)).1.trans (h.2 j hj).2⟩⟩
/-- one more row, and what may be set in it -/
theorem Blk.add {kA nA kE wE : Nat} (h : Blk X b kA nA kE wE i) (h1 : X.1 = b + 1 + i) (Y : pm_H) (hk : ∀ a, pm_k Y a = pm_k (pm_new X kE wE) a) (hr : ∀ a j, pm_rs Y a j = pm_rs (pm_new X kE wE) a j) : Blk (pm_setR Y b i (some X.1)) b kA nA kE wE (i + 1) := by
  refine ⟨?_, fun j hj => ⟨?_, ?_⟩⟩
  · rw [rk, hk, nk, if_neg (by omega)]; exact h.1
  · rw [rr]
    by_cases e : j = i
    · rw [if_pos ⟨rfl, e⟩, h1, e]
    · rw [if_neg (fun q => e q.2), hr, nr, if_neg (by omega)]
      exact (h.2 j (by omega)).1
  · rw [rk, hk, nk]
    by_cases e : j = i
    · rw [if_pos (by omega)]
    · rw [if_neg (by omega)]
      exact (h.2 j (by omega)).2
theorem Old.add {kE wE : Nat} (hb : b < X.1) (Y : pm_H) (hk : ∀ a, pm_k Y a = pm_k (pm_new X kE wE) a) (hr : ∀ a j, pm_rs Y a j = pm_rs (pm_new X kE wE) a j) (hi : ∀ a j, a < X.1 → pm_is Y a j = pm_is (pm_new X kE wE) a j) : Old X (pm_setR Y b i (some X.1)) b := by
  intro a ha
  refine ⟨?_, fun j => ?_, fun j => ?_⟩
  · rw [rk, hk, nk, if_neg (by omega)]
  · rw [rr, if_neg (by omega), hr, nr, if_neg (by omega)]
  · rw [ri, hi a j (by omega), ni, if_neg (by omega)]
theorem X0_init_ev (hk : (pm_k M o).1 = 2) : pm_ev tb xl xs mX0_init 0 [some (.ref o)] [] M = some (none, M) := by
  simp only [eX0_init_0, eX0_init_1, eX0_init_4]
theorem X2_init_ev (hk : (pm_k M o).1 = 6) : pm_ev tb xl xs mX2_init 0 [some (.ref o)] [] M = some (none, M) := by
  simp only [eX2_init_0, eX2_init_1, eX2_init_4]
theorem X3_init_ev (hk : (pm_k M o).1 = 8) : pm_ev tb xl xs mX3_init 0 [some (.ref o)] [] M = some (none, pm_setI M o 5 (-10009)) := by
  simp only [eX3_init_0, eX3_init_1, eX3_init_4, eX3_init_5, eX3_init_8, eX3_init_11, hk]
theorem mk_A (hob : o < b) : ∀ n i X, i + n = 6 → X.1 = b + 1 + i → pm_k X o = (4, 12) → pm_rs X o 0 = some b → Blk X b 3 6 2 3 i → ∃ Y, pm_ev tb xl xs mX1_init 15 [some (.ref o), some (.int (nI i))] [] X = pm_ev tb xl xs mX1_init 40 [some (.ref o), some (.int 6)] [] Y ∧ Y.1 = b + 1 + 6 ∧ Y.2.1 = X.2.1 + 3 * n ∧ Blk Y b 3 6 2 3 6 ∧ Old X Y b := by
  intro n
  induction n with
  | zero =>
    intro i X hi h1 hk hr hB
    obtain rfl : i = 6 := by omega
    refine ⟨X, ?_, h1, rfl, hB, Old.rf⟩
    have e : (nI 6 < 6) = False := lt_f (i := 6) (n := 6) (by omega) (by omega)
    rw [eX1_init_15]
    simp only [eX1_init_16, eX1_init_18, eX1_init_21, eX1_init_22, eX1_init_25, eX1_init_26, eX1_init_29, eX1_init_29_i, eX1_init_30, eX1_init_33, eX1_init_34, eX1_init_37, e, if_false]
    rfl
  | succ n ih =>
    intro i X hi h1 hk hr hB
    have e : (nI i < 6) = True := lt_t (n := 6) (by omega) (by omega)
    have hic : i < 6 := by omega
    have q1 : pm_k (pm_new X 2 3) X.1 = (2, 3) := by rw [nk, if_pos rfl]
    have q2 : pm_k (pm_new X 2 3) b = (3, 6) := by rw [nk, if_neg (by omega)]; exact hB.1
    have hN := hB.add (by omega) (pm_new X 2 3) (fun _ => rfl) (fun _ _ => rfl)
    have hO : Old X (pm_setR (pm_new X 2 3) b i (some X.1)) b := Old.add (by omega) (pm_new X 2 3) (fun _ => rfl) (fun _ _ => rfl) (fun _ _ _ => rfl)
    obtain ⟨Y, e2, y1, y2, yB, yO⟩ := ih (i + 1) (pm_setR (pm_new X 2 3) b i (some X.1)) (by omega) (by rw [r1]; show X.1 + 1 = _; omega) ((hO o hob).1.trans hk) (((hO o hob).2.1 0).trans hr) hN
    refine ⟨Y, ?_, y1, ?_, yB, hO.tr yO⟩
    · rw [← e2, eX1_init_15]
      simp only [eX1_init_16, eX1_init_18, eX1_init_21, eX1_init_22, eX1_init_25, eX1_init_26, eX1_init_29, eX1_init_29_i, eX1_init_30, eX1_init_33, eX1_init_34, eX1_init_37, e, if_true, hk, hr, rv_some, X0_init_ev (show (pm_k (pm_new X 2 3) X.1).1 = 2 by rw [q1]), Option.bind_some, ret_n, List.nil_append, ik, q1, q2, ix6 hic, cl6 hic, nI_1, Nat.reduceLeDiff, Nat.reduceMod, Nat.reduceAdd, and_true, true_and, eq_self]
    · rw [y2, r2]
      show X.2.1 + 3 + 3 * n = X.2.1 + 3 * (n + 1)
      rw [Nat.mul_add]
      omega
theorem mk_H (hob : o < b) : ∀ n i X, i + n = 8 → X.1 = b + 1 + i → pm_k X o = (4, 12) → pm_rs X o 1 = some b → Blk X b 7 8 6 4 i → ∃ Y, pm_ev tb xl xs mX1_init 51 [some (.ref o), some (.int (nI i))] [] X = pm_ev tb xl xs mX1_init 76 [some (.ref o), some (.int 8)] [] Y ∧ Y.1 = b + 1 + 8 ∧ Y.2.1 = X.2.1 + 4 * n ∧ Blk Y b 7 8 6 4 8 ∧ Old X Y b := by
  intro n
  induction n with
  | zero =>
    intro i X hi h1 hk hr hB
    obtain rfl : i = 8 := by omega
    refine ⟨X, ?_, h1, rfl, hB, Old.rf⟩
    have e : (nI 8 < 8) = False := lt_f (i := 8) (n := 8) (by omega) (by omega)
    rw [eX1_init_51]
    simp only [eX1_init_52, eX1_init_54, eX1_init_57, eX1_init_58, eX1_init_61, eX1_init_62, eX1_init_65, eX1_init_65_i, eX1_init_66, eX1_init_69, eX1_init_70, eX1_init_73, e, if_false]
    rfl
  | succ n ih =>
    intro i X hi h1 hk hr hB
    have e : (nI i < 8) = True := lt_t (n := 8) (by omega) (by omega)
    have hic : i < 8 := by omega
    have q1 : pm_k (pm_new X 6 4) X.1 = (6, 4) := by rw [nk, if_pos rfl]
    have q2 : pm_k (pm_new X 6 4) b = (7, 8) := by rw [nk, if_neg (by omega)]; exact hB.1
    have hN := hB.add (by omega) (pm_new X 6 4) (fun _ => rfl) (fun _ _ => rfl)
    have hO : Old X (pm_setR (pm_new X 6 4) b i (some X.1)) b := Old.add (by omega) (pm_new X 6 4) (fun _ => rfl) (fun _ _ => rfl) (fun _ _ _ => rfl)
    obtain ⟨Y, e2, y1, y2, yB, yO⟩ := ih (i + 1) (pm_setR (pm_new X 6 4) b i (some X.1)) (by omega) (by rw [r1]; show X.1 + 1 = _; omega) ((hO o hob).1.trans hk) (((hO o hob).2.1 1).trans hr) hN
    refine ⟨Y, ?_, y1, ?_, yB, hO.tr yO⟩
    · rw [← e2, eX1_init_51]
      simp only [eX1_init_52, eX1_init_54, eX1_init_57, eX1_init_58, eX1_init_61, eX1_init_62, eX1_init_65, eX1_init_65_i, eX1_init_66, eX1_init_69, eX1_init_70, eX1_init_73, e, if_true, hk, hr, rv_some, X2_init_ev (show (pm_k (pm_new X 6 4) X.1).1 = 6 by rw [q1]), Option.bind_some, ret_n, List.nil_append, ik, q1, q2, ix8 hic, cl8 hic, nI_1, Nat.reduceLeDiff, Nat.reduceMod, Nat.reduceAdd, and_true, true_and, eq_self]
    · rw [y2, r2]
      show X.2.1 + 4 + 4 * n = X.2.1 + 4 * (n + 1)
      rw [Nat.mul_add]
      omega
theorem mk_R (hob : o < b) : ∀ n i X, i + n = 40 → X.1 = b + 1 + i → pm_k X o = (4, 12) → pm_rs X o 2 = some b → Blk X b 9 40 8 12 i → ∃ Y, pm_ev tb xl xs mX1_init 87 [some (.ref o), some (.int (nI i))] [] X = pm_ev tb xl xs mX1_init 112 [some (.ref o), some (.int 40)] [] Y ∧ Y.1 = b + 1 + 40 ∧ Y.2.1 = X.2.1 + 12 * n ∧ Blk Y b 9 40 8 12 40 ∧ Old X Y b := by
  intro n
  induction n with
  | zero =>
    intro i X hi h1 hk hr hB
    obtain rfl : i = 40 := by omega
    refine ⟨X, ?_, h1, rfl, hB, Old.rf⟩
    have e : (nI 40 < 40) = False := lt_f (i := 40) (n := 40) (by omega) (by omega)
    rw [eX1_init_87]
    simp only [eX1_init_88, eX1_init_90, eX1_init_93, eX1_init_94, eX1_init_97, eX1_init_98, eX1_init_101, eX1_init_101_i, eX1_init_102, eX1_init_105, eX1_init_106, eX1_init_109, e, if_false]
    rfl
  | succ n ih =>
    intro i X hi h1 hk hr hB
    have e : (nI i < 40) = True := lt_t (n := 40) (by omega) (by omega)
    have hic : i < 40 := by omega
    have q1 : pm_k (pm_new X 8 12) X.1 = (8, 12) := by rw [nk, if_pos rfl]
    have q2 : pm_k (pm_new X 8 12) b = (9, 40) := by rw [nk, if_neg (by omega)]; exact hB.1
    have hN := hB.add (by omega) (pm_setI (pm_new X 8 12) X.1 5 (-10009)) (fun _ => rfl) (fun _ _ => rfl)
    have hO : Old X (pm_setR (pm_setI (pm_new X 8 12) X.1 5 (-10009)) b i (some X.1)) b := Old.add (by omega) (pm_setI (pm_new X 8 12) X.1 5 (-10009)) (fun _ => rfl) (fun _ _ => rfl) (fun a j ha => by rw [ii, if_neg (by omega)])
    obtain ⟨Y, e2, y1, y2, yB, yO⟩ := ih (i + 1) (pm_setR (pm_setI (pm_new X 8 12) X.1 5 (-10009)) b i (some X.1)) (by omega) (by rw [r1]; show X.1 + 1 = _; omega) ((hO o hob).1.trans hk) (((hO o hob).2.1 2).trans hr) hN
    refine ⟨Y, ?_, y1, ?_, yB, hO.tr yO⟩
    · rw [← e2, eX1_init_87]
      simp only [eX1_init_88, eX1_init_90, eX1_init_93, eX1_init_94, eX1_init_97, eX1_init_98, eX1_init_101, eX1_init_101_i, eX1_init_102, eX1_init_105, eX1_init_106, eX1_init_109, e, if_true, hk, hr, rv_some, X3_init_ev (show (pm_k (pm_new X 8 12) X.1).1 = 8 by rw [q1]), Option.bind_some, ret_n, List.nil_append, ik, q1, q2, ix40 hic, cl40 hic, nI_1, Nat.reduceLeDiff, Nat.reduceMod, Nat.reduceAdd, and_true, true_and, eq_self]
    · rw [y2, r2]
      show X.2.1 + 12 + 12 * n = X.2.1 + 12 * (n + 1)
      rw [Nat.mul_add]
      omega
/-- the same in two memories, at one place -/
def Sm (M X : pm_H) (a : Nat) : Prop := pm_k X a = pm_k M a ∧ (∀ j, pm_rs X a j = pm_rs M a j) ∧ ∀ j, pm_is X a j = pm_is M a j
theorem Sm.tr (h : Sm M X a) (h2 : Sm X Y a) : Sm M Y a := ⟨h2.1.trans h.1, fun j => (h2.2.1 j).trans (h.2.1 j), fun j => (h2.2.2 j).trans (h.2.2 j)⟩
theorem stp {v : Option Nat} (h : a < X.1) (ho : a ≠ o) : Sm X (pm_setR (pm_new X k n) o i v) a := by
  refine ⟨?_, fun j => ?_, fun j => ?_⟩
  · rw [rk, nk, if_neg (by omega)]
  · rw [rr, if_neg (fun q => ho q.1), nr, if_neg (by omega)]
  · rw [ri, ni, if_neg (by omega)]
theorem Blk.to {kA nA kE wE : Nat} (h : Blk X b kA nA kE wE i) (h2 : ∀ a, b ≤ a → a < b + 1 + i → Sm X Y a) : Blk Y b kA nA kE wE i :=
  ⟨(h2 b (by omega) (by omega)).1.trans h.1, fun j hj => ⟨((h2 b (by omega) (by omega)).2.1 j).trans (h.2 j hj).1, (h2 _ (by omega) (by omega)).1.trans (h.2 j hj).2⟩⟩
theorem X1_init_ev (hk : pm_k M o = (4, 12)) (ho : o + 1 = M.1) : ∃ Y, pm_ev tb xl xs mX1_init 0 [some (.ref o), none] [] M = some (none, Y) ∧ Y.1 = M.1 + 57 ∧ Y.2.1 = M.2.1 + 584 ∧ LB (FF Y) o ∧ (∀ j, pm_is Y o j = if j = 9 then 20 else if j = 8 then 100 else pm_is M o j) ∧ Old M Y o := by
  have c6 : ¬ (6 : Int32) < 0 ∧ (6 : Int32).toNatClampNeg ≤ 100000 := by decide
  have c8 : ¬ (8 : Int32) < 0 ∧ (8 : Int32).toNatClampNeg ≤ 100000 := by decide
  have c40 : ¬ (40 : Int32) < 0 ∧ (40 : Int32).toNatClampNeg ≤ 100000 := by decide
  have d6 : (6 : Int32).toNatClampNeg = 6 := by decide
  have d8 : (8 : Int32).toNatClampNeg = 8 := by decide
  have d40 : (40 : Int32).toNatClampNeg = 40 := by decide
  have A0 : pm_k (pm_setR (pm_new M 3 6) o 0 (some M.1)) o = (4, 12) := by rw [rk, nk, if_neg (by omega)]; exact hk
  obtain ⟨A, a1, a2, a3, aB, aO⟩ := mk_A (xl := xl) (xs := xs) (o := o) (b := M.1) (by omega) 6 0 (pm_setR (pm_new M 3 6) o 0 (some M.1)) (by omega) rfl A0 (by rw [rr, if_pos ⟨rfl, rfl⟩]) ⟨by rw [rk, nk, if_pos rfl], fun j hj => absurd hj (by omega)⟩
  have kA : pm_k A o = (4, 12) := (aO o (by omega)).1.trans A0
  have B0 : pm_k (pm_setR (pm_new A 7 8) o 1 (some A.1)) o = (4, 12) := by rw [rk, nk, if_neg (by omega)]; exact kA
  obtain ⟨B, b1, b2, b3, bB, bO⟩ := mk_H (xl := xl) (xs := xs) (o := o) (b := A.1) (by omega) 8 0 (pm_setR (pm_new A 7 8) o 1 (some A.1)) (by omega) rfl B0 (by rw [rr, if_pos ⟨rfl, rfl⟩]) ⟨by rw [rk, nk, if_pos rfl], fun j hj => absurd hj (by omega)⟩
  have kB : pm_k B o = (4, 12) := (bO o (by omega)).1.trans B0
  have C0 : pm_k (pm_setR (pm_new B 9 40) o 2 (some B.1)) o = (4, 12) := by rw [rk, nk, if_neg (by omega)]; exact kB
  obtain ⟨C, g1, g2, g3, gB, gO⟩ := mk_R (xl := xl) (xs := xs) (o := o) (b := B.1) (by omega) 40 0 (pm_setR (pm_new B 9 40) o 2 (some B.1)) (by omega) rfl C0 (by rw [rr, if_pos ⟨rfl, rfl⟩]) ⟨by rw [rk, nk, if_pos rfl], fun j hj => absurd hj (by omega)⟩
  have kC : pm_k C o = (4, 12) := (gO o (by omega)).1.trans C0
  refine ⟨pm_setI (pm_setI C o 8 100) o 9 20, ?_, ?_, ?_, ?_, ?_, ?_⟩
  · have a1' : pm_ev tb xl xs mX1_init 15 [some (.ref o), some (.int 0)] [] (pm_setR (pm_new M 3 6) o 0 (some M.1)) = _ := a1
    have b1' : pm_ev tb xl xs mX1_init 51 [some (.ref o), some (.int 0)] [] (pm_setR (pm_new A 7 8) o 1 (some A.1)) = _ := b1
    have g1' : pm_ev tb xl xs mX1_init 87 [some (.ref o), some (.int 0)] [] (pm_setR (pm_new B 9 40) o 2 (some B.1)) = _ := g1
    have t1 : pm_k (pm_new M 3 6) o = (4, 12) := A0
    have t2 : pm_k (pm_new A 7 8) o = (4, 12) := B0
    have t3 : pm_k (pm_new B 9 40) o = (4, 12) := C0
    have t4 : pm_k (pm_setI C o 8 100) o = (4, 12) := kC
    simp only [eX1_init_0, eX1_init_1, eX1_init_4, eX1_init_5, eX1_init_7, eX1_init_10, eX1_init_13, eX1_init_14, eX1_init_16, eX1_init_18, eX1_init_21, eX1_init_22, eX1_init_25, eX1_init_26, eX1_init_29, eX1_init_29_i, eX1_init_30, eX1_init_33, eX1_init_34, eX1_init_37, eX1_init_40, eX1_init_41, eX1_init_43, eX1_init_46, eX1_init_49, eX1_init_50, eX1_init_52, eX1_init_54, eX1_init_57, eX1_init_58, eX1_init_61, eX1_init_62, eX1_init_65, eX1_init_65_i, eX1_init_66, eX1_init_69, eX1_init_70, eX1_init_73, eX1_init_76, eX1_init_77, eX1_init_79, eX1_init_82, eX1_init_85, eX1_init_86, eX1_init_88, eX1_init_90, eX1_init_93, eX1_init_94, eX1_init_97, eX1_init_98, eX1_init_101, eX1_init_101_i, eX1_init_102, eX1_init_105, eX1_init_106, eX1_init_109, eX1_init_112, eX1_init_113, eX1_init_115, eX1_init_118, eX1_init_119, eX1_init_121, eX1_init_124, c6, c8, c40, d6, d8, d40, hk, t1, t2, t3, t4, kC, a1', b1', g1', not_false_eq_true, and_self, Nat.reduceLeDiff]
  · show C.1 = _
    omega
  · show C.2.1 = _
    rw [g3, r2, n2, b3, r2, n2, a3, r2, n2]
  · have hAB : ∀ a, a < A.1 → a ≠ o → Sm A B a := fun a h ho => (stp h ho).tr (bO a h)
    have hBC : ∀ a, a < B.1 → a ≠ o → Sm B C a := fun a h ho => (stp h ho).tr (gO a h)
    have eA := aB.to (Y := C) (fun a p q => (hAB a (by omega) (by omega)).tr (hBC a (by omega) (by omega)))
    have eB := bB.to (Y := C) (fun a p q => hBC a (by omega) (by omega))
    have f0 : pm_rs C o 0 = some M.1 := by
      rw [(gO o (by omega)).2.1, rr, if_neg (by omega), nr, if_neg (by omega), (bO o (by omega)).2.1, rr, if_neg (by omega), nr, if_neg (by omega), (aO o (by omega)).2.1, rr, if_pos ⟨rfl, rfl⟩]
    have f1 : pm_rs C o 1 = some A.1 := by
      rw [(gO o (by omega)).2.1, rr, if_neg (by omega), nr, if_neg (by omega), (bO o (by omega)).2.1, rr, if_pos ⟨rfl, rfl⟩]
    have f2 : pm_rs C o 2 = some B.1 := by
      rw [(gO o (by omega)).2.1, rr, if_pos ⟨rfl, rfl⟩]
    have u1 : M.1 = o + 1 := ho.symm
    have u2 : A.1 = o + 8 := by omega
    have u3 : B.1 = o + 17 := by omega
    rw [u1] at f0 eA
    rw [u2] at f1 eB
    rw [u3] at f2 gB
    refine ⟨kC, f0, f1, f2, eA.1, eB.1, gB.1, fun j hj => ⟨?_, ?_⟩, fun j hj => ⟨?_, ?_⟩, fun j hj => ⟨?_, ?_⟩⟩
    · exact (eA.2 j hj).1.trans (congrArg some (by omega))
    · have := (eA.2 j hj).2
      rw [show o + 1 + 1 + j = o + 2 + j by omega] at this
      exact this
    · exact (eB.2 j hj).1.trans (congrArg some (by omega))
    · have := (eB.2 j hj).2
      rw [show o + 8 + 1 + j = o + 9 + j by omega] at this
      exact this
    · exact (gB.2 j hj).1.trans (congrArg some (by omega))
    · have := (gB.2 j hj).2
      rw [show o + 17 + 1 + j = o + 18 + j by omega] at this
      exact this
  · intro j
    rw [ii, ii]
    have e : pm_is C o j = pm_is M o j := by
      rw [(gO o (by omega)).2.2, ri, ni, if_neg (by omega), (bO o (by omega)).2.2, ri, ni, if_neg (by omega), (aO o (by omega)).2.2, ri, ni, if_neg (by omega)]
    rw [e]
    simp only [true_and]
  · intro a ha
    have h1 : Sm M C a := (((stp (by omega) (by omega)).tr (aO a (by omega))).tr ((stp (by omega) (by omega)).tr (bO a (by omega)))).tr ((stp (by omega) (by omega)).tr (gO a (by omega)))
    refine ⟨h1.1, h1.2.1, fun j => ?_⟩
    rw [ii, if_neg (by omega), ii, if_neg (by omega)]
    exact h1.2.2 j
end MAKE

