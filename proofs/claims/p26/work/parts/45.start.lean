/-! the desk is made, and the model; the law from its start -/
section START
variable {xl : Nat} {xs : Nat → Int32} {M X Y Z : pm_H} {o b k n a j i T : Nat}
theorem LB.same {o : Nat} (h : LB (FF X) o) (h2 : ∀ a, o ≤ a → a < o + 58 → Sm X Y a) : LB (FF Y) o := by
  have hk : ∀ a, o ≤ a → a < o + 58 → fk (FF Y) a = fk (FF X) a := fun a p q => (h2 a p q).1
  have hr : ∀ a j, o ≤ a → a < o + 58 → fr (FF Y) a j = fr (FF X) a j := fun a j p q => (h2 a p q).2.1 j
  obtain ⟨e1, e2, e3, e4, e5, e6, e7, e8, e9, e10⟩ := h
  refine ⟨?_, ?_, ?_, ?_, ?_, ?_, ?_, fun a ha => ⟨?_, ?_⟩, fun a ha => ⟨?_, ?_⟩, fun a ha => ⟨?_, ?_⟩⟩
  · rw [hk o (by omega) (by omega)]; exact e1
  · rw [hr o 0 (by omega) (by omega)]; exact e2
  · rw [hr o 1 (by omega) (by omega)]; exact e3
  · rw [hr o 2 (by omega) (by omega)]; exact e4
  · rw [hk _ (by omega) (by omega)]; exact e5
  · rw [hk _ (by omega) (by omega)]; exact e6
  · rw [hk _ (by omega) (by omega)]; exact e7
  · rw [hr _ a (by omega) (by omega)]; exact (e8 a ha).1
  · rw [hk _ (by omega) (by omega)]; exact (e8 a ha).2
  · rw [hr _ a (by omega) (by omega)]; exact (e9 a ha).1
  · rw [hk _ (by omega) (by omega)]; exact (e9 a ha).2
  · rw [hr _ a (by omega) (by omega)]; exact (e10 a ha).1
  · rw [hk _ (by omega) (by omega)]; exact (e10 a ha).2
theorem sm_new {k n : Nat} (h : a < X.1) : Sm X (pm_new X k n) a := ⟨by rw [nk, if_neg (by omega)], fun j => by rw [nr, if_neg (by omega)], fun j => by rw [ni, if_neg (by omega)]⟩
theorem sm_setR {v : Option Nat} (h : a ≠ o) : Sm X (pm_setR X o i v) a := ⟨rfl, fun j => by rw [rr, if_neg (fun q => h q.1)], fun _ => rfl⟩
theorem sm_setI {v : Int32} (h : a ≠ o) : Sm X (pm_setI X o i v) a := ⟨rfl, fun _ => rfl, fun j => by rw [ii, if_neg (fun q => h q.1)]⟩
/-- a new book -/
theorem book_ev (X : pm_H) (ho : o = X.1) : ∃ Y, pm_ev tb xl xs mX1_init 0 [some (.ref o), none] [] (pm_new X 4 12) = some (none, Y) ∧ Y.1 = o + 58 ∧ Y.2.1 = X.2.1 + 596 ∧ LB (FF Y) o ∧ (∀ j, pm_is Y o j = if j = 9 then 20 else if j = 8 then 100 else 0) ∧ ∀ a, a < o → Sm X Y a := by
  subst ho
  obtain ⟨Y, e, y1, y2, y3, y4, y5⟩ := X1_init_ev (xl := xl) (xs := xs) (M := pm_new X 4 12) (o := X.1) (by rw [nk, if_pos rfl]) rfl
  refine ⟨Y, e, ?_, ?_, y3, fun j => ?_, fun a ha => (sm_new ha).tr (y5 a ha)⟩
  · rw [y1, n1]
  · rw [y2, n2]
  · rw [y4 j, ni, if_pos rfl]
theorem desk_loop (S : pm_H) (hk : pm_k S 0 = (10, 6)) (h2 : pm_rs S 0 2 = some 117) (T : Nat) : ∀ n i X, i + n = 8 → X.1 = 118 + 58 * i → X.2.1 = T + 596 * i → pm_k X 117 = (5, 8) → (∀ j, j < i → pm_rs X 117 j = some (118 + 58 * j) ∧ LB (FF X) (118 + 58 * j)) → (∀ a, a < 117 → Sm S X a) →
    ∃ Y, pm_ev tb xl xs mX4_init 37 [some (.ref 0), some (.int (nI i))] [] X = pm_ev tb xl xs mX4_init 62 [some (.ref 0), some (.int 8)] [] Y ∧ Y.1 = 582 ∧ Y.2.1 = T + 4768 ∧ pm_k Y 117 = (5, 8) ∧ (∀ j, j < 8 → pm_rs Y 117 j = some (118 + 58 * j) ∧ LB (FF Y) (118 + 58 * j)) ∧ ∀ a, a < 117 → Sm S Y a := by
  intro n
  induction n with
  | zero =>
    intro i X hi h1 hT hk7 hj hs
    obtain rfl : i = 8 := by omega
    refine ⟨X, ?_, by omega, by omega, hk7, hj, hs⟩
    have e : (nI 8 < 8) = False := lt_f (i := 8) (n := 8) (by omega) (by omega)
    rw [eX4_init_37]
    simp only [eX4_init_38, eX4_init_40, eX4_init_43, eX4_init_44, eX4_init_47, eX4_init_48, eX4_init_51, eX4_init_51_i, eX4_init_52, eX4_init_55, eX4_init_56, eX4_init_59, e, if_false]
    rfl
  | succ n ih =>
    intro i X hi h1 hT hk7 hj hs
    have e : (nI i < 8) = True := lt_t (n := 8) (by omega) (by omega)
    have hi8 : i < 8 := by omega
    obtain ⟨Y, eY, y1, y2, y3, y4, y5⟩ := book_ev (xl := xl) (xs := xs) X rfl
    have k0 : pm_k (pm_new X 4 12) X.1 = (4, 12) := by rw [nk, if_pos rfl]
    have kx : pm_k X 0 = (10, 6) := (hs 0 (by omega)).1.trans hk
    have rx : pm_rs X 0 2 = some 117 := ((hs 0 (by omega)).2.1 2).trans h2
    have kY : pm_k Y 117 = (5, 8) := (y5 117 (by omega)).1.trans hk7
    have kE : pm_k Y X.1 = (4, 12) := y3.1
    obtain ⟨Z, eZ, z1, z2, z3, z4, z5⟩ := ih (i + 1) (pm_setR Y 117 i (some X.1)) (by omega) (by rw [r1, y1]; omega) (by rw [r2, y2]; omega) kY (fun j hj2 => by
      by_cases ej : j = i
      · refine ⟨by rw [rr, if_pos ⟨rfl, ej⟩, h1, ej], ?_⟩
        rw [ej, ← h1]
        exact y3.same (fun a p q => sm_setR (by omega))
      · obtain ⟨q1, q2⟩ := hj j (by omega)
        refine ⟨?_, q2.same (fun a p q => (y5 a (by omega)).tr (sm_setR (by omega)))⟩
        rw [rr, if_neg (fun q => ej q.2), (y5 117 (by omega)).2.1]
        exact q1) (fun a ha => (hs a ha).tr ((y5 a (by omega)).tr (sm_setR (by omega))))
    refine ⟨Z, ?_, z1, z2, z3, z4, z5⟩
    rw [← eZ, eX4_init_37]
    simp only [eX4_init_38, eX4_init_40, eX4_init_43, eX4_init_44, eX4_init_47, eX4_init_48, eX4_init_51, eX4_init_51_i, eX4_init_52, eX4_init_55, eX4_init_56, eX4_init_59, e, if_true, kx, rx, rv_some, k0, eY, Option.bind_some, ret_n, List.nil_append, kY, kE, ix8 hi8, cl8 hi8, nI_1, Nat.reduceLeDiff, Nat.reduceMod, Nat.reduceAdd, and_true, true_and, eq_self]
theorem desk_ev (M : pm_H) (hM1 : M.1 = 1) (hk : pm_k M 0 = (10, 6)) (hi : ∀ a j, pm_is M a j = 0) : ∃ Y, pm_ev tb xl xs mX4_init 0 [some (.ref 0), none] [] M = some (none, Y) ∧ Y.1 = 583 ∧ Y.2.1 = M.2.1 + 5976 ∧ LD (FF Y) ∧ (∀ j, pm_is Y 1 j = if j = 9 then 20 else if j = 8 then 100 else 0) ∧ pm_is Y 0 4 = 0 ∧ pm_is Y 0 5 = 0 := by
  have c8 : ¬ (8 : Int32) < 0 ∧ (8 : Int32).toNatClampNeg ≤ 100000 := by decide
  have d8 : (8 : Int32).toNatClampNeg = 8 := by decide
  obtain ⟨A, eA, a1, a2, a3, a4, a5⟩ := book_ev (xl := xl) (xs := xs) (o := 1) M hM1.symm
  have hA0 : A.1 = 59 := a1
  obtain ⟨B, eB, b1, b2, b3, b4, b5⟩ := book_ev (xl := xl) (xs := xs) (o := 59) (pm_setR A 0 0 (some 1)) hA0.symm
  have hB0 : B.1 = 117 := b1
  have kA : pm_k A 0 = (10, 6) := (a5 0 (by omega)).1.trans hk
  have kB : pm_k B 0 = (10, 6) := (b5 0 (by omega)).1.trans kA
  have kS : pm_k (pm_setR (pm_new (pm_setR B 0 1 (some 59)) 5 8) 0 2 (some 117)) 0 = (10, 6) := by
    rw [rk, nk, r1, if_neg (by omega)]; exact kB
  obtain ⟨C, eC, c1, c2, c3, c4, c5⟩ := desk_loop (xl := xl) (xs := xs) (pm_setR (pm_new (pm_setR B 0 1 (some 59)) 5 8) 0 2 (some 117)) kS (by rw [rr, if_pos ⟨rfl, rfl⟩]) (M.2.1 + 1200) 8 0 (pm_setR (pm_new (pm_setR B 0 1 (some 59)) 5 8) 0 2 (some 117)) (by omega) (by show B.1 + 1 = _; omega) (by rw [r2, n2, r2, b2, r2, a2]) (by rw [rk, nk, r1, hB0, if_pos rfl]) (fun j hj => absurd hj (by omega)) (fun _ _ => ⟨rfl, fun _ => rfl, fun _ => rfl⟩)
  have kC : pm_k C 0 = (10, 6) := (c5 0 (by omega)).1.trans kS
  have sCW : ∀ a, a < 582 → a ≠ 0 → Sm C (pm_setI (pm_setI (pm_setR (pm_new C 1 8) 0 3 (some 582)) 0 4 0) 0 5 0) a := fun a h h0 => (((sm_new (by omega)).tr (sm_setR h0)).tr (sm_setI h0)).tr (sm_setI h0)
  have sBC : ∀ a, a < 117 → a ≠ 0 → Sm B C a := fun a h h0 => (((sm_setR h0).tr (sm_new (by show a < B.1; omega))).tr (sm_setR h0)).tr (c5 a h)
  have sAB : ∀ a, a < 59 → a ≠ 0 → Sm A B a := fun a h h0 => (sm_setR h0).tr (b5 a h)
  refine ⟨pm_setI (pm_setI (pm_setR (pm_new C 1 8) 0 3 (some 582)) 0 4 0) 0 5 0, ?_, ?_, ?_, ?_, ?_, ?_, ?_⟩
  · have g1 : pm_k (pm_new M 4 12) 1 = (4, 12) := by rw [nk, if_pos hM1.symm]
    have g2 : pm_k (pm_new (pm_setR A 0 0 (some 1)) 4 12) 59 = (4, 12) := by rw [nk, if_pos (show 59 = (pm_setR A 0 0 (some 1)).1 from hA0.symm)]
    have g3 : pm_k (pm_new (pm_setR B 0 1 (some 59)) 5 8) 0 = (10, 6) := kS
    have g4 : pm_k (pm_new C 1 8) 0 = (10, 6) := by rw [nk, if_neg (by omega)]; exact kC
    have eC' : pm_ev tb xl xs mX4_init 37 [some (.ref 0), some (.int 0)] [] (pm_setR (pm_new (pm_setR B 0 1 (some 59)) 5 8) 0 2 (some 117)) = _ := eC
    have g5 : (pm_setR B 0 1 (some 59)).1 = 117 := hB0
    have g6 : (pm_setR A 0 0 (some 1)).1 = 59 := hA0
    simp only [eX4_init_0, eX4_init_1, eX4_init_4, eX4_init_5, eX4_init_8, eX4_init_8_i, eX4_init_9, eX4_init_12, eX4_init_15, eX4_init_16, eX4_init_19, eX4_init_19_i, eX4_init_20, eX4_init_23, eX4_init_26, eX4_init_27, eX4_init_29, eX4_init_32, eX4_init_35, eX4_init_36, eX4_init_38, eX4_init_40, eX4_init_43, eX4_init_44, eX4_init_47, eX4_init_48, eX4_init_51, eX4_init_51_i, eX4_init_52, eX4_init_55, eX4_init_56, eX4_init_59, eX4_init_62, eX4_init_63, eX4_init_65, eX4_init_67, eX4_init_70, eX4_init_71, eX4_init_72, eX4_init_75, eX4_init_76, eX4_init_77, eX4_init_80, hk, hM1, g1, g2, g3, g4, g5, g6, eA, eB, kA, kB, kC, c1, c8, d8, eC', rk, ik, Option.bind_some, ret_n, List.nil_append, not_false_eq_true, and_self, Nat.reduceLeDiff]
  · show C.1 + 1 = 583
    omega
  · show C.2.1 + 8 = _
    omega
  · have w : ∀ j, j ≠ 3 → pm_rs (pm_setI (pm_setI (pm_setR (pm_new C 1 8) 0 3 (some 582)) 0 4 0) 0 5 0) 0 j = pm_rs (pm_setR (pm_new (pm_setR B 0 1 (some 59)) 5 8) 0 2 (some 117)) 0 j := fun j hj => by
      rw [ir, ir, rr, if_neg (fun q => hj q.2), nr, if_neg (by omega)]
      exact (c5 0 (by omega)).2.1 j
    refine ⟨?_, ?_, ?_, ?_, ?_, ?_, ?_, ?_, ?_, fun j hj => ⟨?_, ?_⟩⟩
    · show pm_k (pm_new C 1 8) 0 = _
      rw [nk, if_neg (by omega)]
      exact kC
    · refine (w 0 (by omega)).trans ?_
      rw [rr, if_neg (by omega), nr, if_neg (by show ¬ 0 = B.1; omega), rr, if_neg (by omega), (b5 0 (by omega)).2.1, rr, if_pos ⟨rfl, rfl⟩]
    · refine (w 1 (by omega)).trans ?_
      rw [rr, if_neg (by omega), nr, if_neg (by show ¬ 0 = B.1; omega), rr, if_pos ⟨rfl, rfl⟩]
    · refine (w 2 (by omega)).trans ?_
      rw [rr, if_pos ⟨rfl, rfl⟩]
    · show pm_rs (pm_setI (pm_setI (pm_setR (pm_new C 1 8) 0 3 (some 582)) 0 4 0) 0 5 0) 0 3 = _
      rw [ir, ir, rr, if_pos ⟨rfl, rfl⟩]
    · exact (sCW 117 (by omega) (by omega)).1.trans c3
    · show pm_k (pm_new C 1 8) 582 = _
      rw [nk, if_pos c1.symm]
    · exact a3.same (fun a p q => ((sAB a (by omega) (by omega)).tr (sBC a (by omega) (by omega))).tr (sCW a (by omega) (by omega)))
    · exact b3.same (fun a p q => (sBC a (by omega) (by omega)).tr (sCW a (by omega) (by omega)))
    · exact ((sCW 117 (by omega) (by omega)).2.1 j).trans (c4 j hj).1
    · exact (c4 j hj).2.same (fun a p q => sCW a (by omega) (by omega))
  · intro j
    have := (((sAB 1 (by omega) (by omega)).tr (sBC 1 (by omega) (by omega))).tr (sCW 1 (by omega) (by omega))).2.2 j
    rw [this]
    exact a4 j
  · rw [ii, if_neg (by omega), ii, if_pos ⟨rfl, rfl⟩]
  · rw [ii, if_pos ⟨rfl, rfl⟩]
end START

