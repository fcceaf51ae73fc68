/-! the law from its start -/
section BEGIN
variable {xl : Nat} {xs : Nat → Int32} {M X Y Z : pm_H}
theorem LD.same (h : LD (FF X)) (h2 : ∀ a, a < 583 → Sm X Y a) : LD (FF Y) := by
  have hk : ∀ a, a < 583 → fk (FF Y) a = fk (FF X) a := fun a p => (h2 a p).1
  have hr : ∀ a j, a < 583 → fr (FF Y) a j = fr (FF X) a j := fun a j p => (h2 a p).2.1 j
  obtain ⟨e1, e2, e3, e4, e5, e6, e7, e8, e9, e10⟩ := h
  refine ⟨?_, ?_, ?_, ?_, ?_, ?_, ?_, e8.same (fun a p q => h2 a (by omega)), e9.same (fun a p q => h2 a (by omega)), fun j hj => ⟨?_, (e10 j hj).2.same (fun a p q => h2 a (by omega))⟩⟩
  · rw [hk 0 (by omega)]; exact e1
  · rw [hr 0 0 (by omega)]; exact e2
  · rw [hr 0 1 (by omega)]; exact e3
  · rw [hr 0 2 (by omega)]; exact e4
  · rw [hr 0 3 (by omega)]; exact e5
  · rw [hk 117 (by omega)]; exact e6
  · rw [hk 582 (by omega)]; exact e7
  · rw [hr 117 j (by omega)]; exact (e10 j hj).1
def mkM (Y : pm_H) : pm_H := pm_setR (pm_new (pm_setR (pm_new (pm_setR (pm_new (pm_setR (pm_new (pm_new Y 12 5) 1 539) 583 0 (some 584)) 1 4312) 583 1 (some 585)) 1 539) 583 2 (some 586)) 1 6) 583 4 (some 587)
theorem mkM_k (h : Y.1 = 583) (a : Nat) : pm_k (mkM Y) a = if a = 587 then (1, 6) else if a = 586 then (1, 539) else if a = 585 then (1, 4312) else if a = 584 then (1, 539) else if a = 583 then (12, 5) else pm_k Y a := by
  unfold mkM
  simp only [rk, nk, r1, n1, h, Nat.reduceAdd]
theorem mkM_r (h : Y.1 = 583) (a j : Nat) : pm_rs (mkM Y) a j = if a = 583 ∧ j = 4 then some 587 else if a = 587 then none else if a = 583 ∧ j = 2 then some 586 else if a = 586 then none else if a = 583 ∧ j = 1 then some 585 else if a = 585 then none else if a = 583 ∧ j = 0 then some 584 else if a = 584 then none else if a = 583 then none else pm_rs Y a j := by
  unfold mkM
  simp only [rr, nr, r1, n1, h, Nat.reduceAdd]
theorem mkM_i (h : Y.1 = 583) (a j : Nat) : pm_is (mkM Y) a j = if a = 587 then 0 else if a = 586 then 0 else if a = 585 then 0 else if a = 584 then 0 else if a = 583 then 0 else pm_is Y a j := by
  unfold mkM
  simp only [ri, ni, r1, n1, h, Nat.reduceAdd]
theorem model_ev (h : Y.1 = 583) : pm_ev tb xl xs mX5_init 0 [some (.ref 583)] [] (pm_new Y 12 5) = some (none, pm_setI (pm_setI (mkM Y) 584 2 100) 584 3 20) := by
  have c1 : ¬ (539 : Int32) < 0 ∧ (539 : Int32).toNatClampNeg ≤ 100000 := by decide
  have c2 : ¬ (4312 : Int32) < 0 ∧ (4312 : Int32).toNatClampNeg ≤ 100000 := by decide
  have c3 : ¬ (6 : Int32) < 0 ∧ (6 : Int32).toNatClampNeg ≤ 100000 := by decide
  have d1 : (539 : Int32).toNatClampNeg = 539 := by decide
  have d2 : (4312 : Int32).toNatClampNeg = 4312 := by decide
  have d3 : (6 : Int32).toNatClampNeg = 6 := by decide
  have d4 : (2 : Int32).toNatClampNeg = 2 := by decide
  have d5 : (3 : Int32).toNatClampNeg = 3 := by decide
  have v2 : vp_in (2 : Int32) 539 := ix_n (i := 2) (by omega) (by omega)
  have v3 : vp_in (3 : Int32) 539 := ix_n (i := 3) (by omega) (by omega)
  unfold mkM
  simp only [eX5_init_0, eX5_init_1, eX5_init_4, eX5_init_5, eX5_init_8, eX5_init_10, eX5_init_13, eX5_init_14, eX5_init_17, eX5_init_19, eX5_init_22, eX5_init_23, eX5_init_26, eX5_init_28, eX5_init_31, eX5_init_32, eX5_init_34, eX5_init_36, eX5_init_39, eX5_init_40, eX5_init_43, eX5_init_44, eX5_init_46, eX5_init_47, eX5_init_48, eX5_init_51, eX5_init_52, eX5_init_54, eX5_init_55, rk, rr, nk, nr, ik, ir, r1, n1, h, rv_some, c1, c2, c3, d1, d2, d3, d4, d5, v2, v3, Nat.reduceAdd, Nat.reduceEqDiff, if_true, if_false, not_false_eq_true, and_self, and_true, true_and, and_false, false_and, Nat.reduceLeDiff]
theorem law_ev (hL : xl ≤ 2048) : ∃ Mf, pm_ev tb xl xs mL_law 0 [some (.long 0), none, none, none] [] M00 = some (some (.int 1), Mf) ∧ Mf.1 ≤ 600000 ∧ Mf.2.1 ≤ 7302250 := by
  obtain ⟨Y, eY, y1, y2, y3, y4, y5, y6⟩ := desk_ev (xl := xl) (xs := xs) (pm_new M00 10 6) rfl (by rw [nk]; exact if_pos rfl) (fun a j => by rw [ni]; split <;> rfl)
  have hm := model_ev (xl := xl) (xs := xs) y1
  have sY : ∀ a, a < 583 → Sm Y (pm_setI (pm_setI (mkM Y) 584 2 100) 584 3 20) a := fun a ha => by
    refine ⟨?_, fun j => ?_, fun j => ?_⟩
    · rw [ik, ik, mkM_k y1, if_neg (by omega), if_neg (by omega), if_neg (by omega), if_neg (by omega), if_neg (by omega)]
    · rw [ir, ir, mkM_r y1, if_neg (by omega), if_neg (by omega), if_neg (by omega), if_neg (by omega), if_neg (by omega), if_neg (by omega), if_neg (by omega), if_neg (by omega), if_neg (by omega)]
    · rw [ii, if_neg (by omega), ii, if_neg (by omega), mkM_i y1, if_neg (by omega), if_neg (by omega), if_neg (by omega), if_neg (by omega), if_neg (by omega)]
  have t1 : (mkM Y).1 = 588 := by
    unfold mkM
    simp only [r1, n1, y1]
  have t2 : (mkM Y).2.1 = 11383 := by
    unfold mkM
    simp only [r2, n2, y2]
    rfl
  have i4 : ∀ j, pm_is (pm_setI (pm_setI (mkM Y) 584 2 100) 584 3 20) 584 j = if j = 3 then 20 else if j = 2 then 100 else 0 := fun j => by
    rw [ii, ii, mkM_i y1]
    simp only [true_and, Nat.reduceEqDiff, if_false, if_true]
  have i3 : pm_is (pm_setI (pm_setI (mkM Y) 584 2 100) 584 3 20) 583 3 = 0 := by
    rw [ii, if_neg (by omega), ii, if_neg (by omega), mkM_i y1, if_neg (by omega), if_neg (by omega), if_neg (by omega), if_neg (by omega), if_pos rfl]
  have i1 : ∀ j, pm_is (pm_setI (pm_setI (mkM Y) 584 2 100) 584 3 20) 1 j = if j = 9 then 20 else if j = 8 then 100 else 0 := fun j => ((sY 1 (by omega)).2.2 j).trans (y4 j)
  have i05 : pm_is (pm_setI (pm_setI (mkM Y) 584 2 100) 584 3 20) 0 5 = 0 := ((sY 0 (by omega)).2.2 5).trans y6
  have i04 : pm_is (pm_setI (pm_setI (mkM Y) 584 2 100) 584 3 20) 0 4 = 0 := ((sY 0 (by omega)).2.2 4).trans y5
  have hD : LD (FF (pm_setI (pm_setI (mkM Y) 584 2 100) 584 3 20)) := y3.same sY
  have hM : LM (FF (pm_setI (pm_setI (mkM Y) 584 2 100) 584 3 20)) 583 := by
    have hk : ∀ a, fk (FF (pm_setI (pm_setI (mkM Y) 584 2 100) 584 3 20)) a = pm_k (mkM Y) a := fun _ => rfl
    have hr : ∀ a j, fr (FF (pm_setI (pm_setI (mkM Y) 584 2 100) 584 3 20)) a j = pm_rs (mkM Y) a j := fun _ _ => rfl
    refine ⟨?_, ?_, ?_, ?_, ?_, ?_, ?_, ?_, ?_⟩
    · rw [hk, mkM_k y1]; rfl
    · rw [hr, mkM_r y1]; rfl
    · rw [hr, mkM_r y1]; rfl
    · rw [hr, mkM_r y1]; rfl
    · rw [hr, mkM_r y1]; rfl
    · rw [hk, mkM_k y1]; rfl
    · rw [hk, mkM_k y1]; rfl
    · rw [hk, mkM_k y1]; rfl
    · rw [hk, mkM_k y1]; rfl
  have hF : Full 0 (pm_is (pm_setI (pm_setI (mkM Y) 584 2 100) 584 3 20)) := by
    generalize pm_is (pm_setI (pm_setI (mkM Y) 584 2 100) 584 3 20) = I at i4 i3 i1 i05 i04
    have z : ∀ k, ¬ k = 3 → ¬ k = 2 → I 584 k = 0 := fun k a b => by rw [i4 k, if_neg a, if_neg b]
    have g0 : gp (I 584) 0 = 0 := z 0 (by omega) (by omega)
    have g1 : gp (I 584) 1 = 0 := z 1 (by omega) (by omega)
    have g2 : gp (I 584) 2 = 100 := i4 2
    have g3 : gp (I 584) 3 = 20 := i4 3
    have g4 : gp (I 584) 4 = 0 := z 4 (by omega) (by omega)
    have g5 : gp (I 584) 5 = 0 := z 5 (by omega) (by omega)
    have g6 : gp (I 584) 6 = 0 := z 6 (by omega) (by omega)
    have g7 : gp (I 584) 7 = 0 := z 7 (by omega) (by omega)
    have g8 : gp (I 584) 8 = 0 := z 8 (by omega) (by omega)
    refine ⟨0, 0, fun _ => I 584, 0, 0, 0, ⟨⟨?_, ?_, ?_, ?_, ?_, ?_, ?_, ?_, ?_⟩, fun a ha => absurd ha (by omega), fun a ha => absurd ha (by omega), fun a ha => absurd ha (by omega)⟩, ⟨⟨⟨⟨g4, by omega⟩, ⟨g5, by omega⟩, ⟨g6, by omega⟩, fun a ha => absurd ha (by omega)⟩, fun a ha => absurd ha (by omega)⟩, ⟨?_, ?_, ⟨?_, ?_⟩, ?_⟩, fun a ha => absurd ha (by omega), fun a ha => absurd ha (by omega), fun h _ h8 j hj => ?_⟩, ⟨i04, i05, by omega, by omega, fun a ha => absurd ha (by omega)⟩, i3, fun a ha => absurd ha (by omega)⟩
    · rw [i1, g4]; rfl
    · rw [i1, g5]; rfl
    · rw [i1, g6]; rfl
    · rw [i1, g0]; rfl
    · rw [i1, g1]; rfl
    · rw [i1, g2]; rfl
    · rw [i1, g3]; rfl
    · rw [i1, g7]; rfl
    · rw [i1, g8]; rfl
    · rw [g0]; exact in_n (k := 0) (by omega) (by omega)
    · rw [g1]
      rw [g0]
      exact in_n (k := 0) (by omega) (by show 1000001 + 120000 * (0 / 90) < 2147483648; omega)
    · rw [g2]; exact in_n (k := 100) (by omega) (by omega)
    · rw [g2]; decide
    · rw [g3]; exact in_n (k := 20) (by omega) (by omega)
    · unfold hp
      exact z _ (by omega) (by omega)
  obtain ⟨I', e⟩ := law_loop (xs := xs) hL hD hM 513 0 _ (by omega) (by omega) hF
  refine ⟨pm_G (FF (pm_setI (pm_setI (mkM Y) 584 2 100) 584 3 20)) I', ?_, ?_, ?_⟩
  · rw [G_FF] at e
    have k0 : pm_k (pm_new M00 10 6) 0 = (10, 6) := by rw [nk]; exact if_pos rfl
    have k1 : pm_k (pm_new Y 12 5) 583 = (12, 5) := by rw [nk]; exact if_pos y1.symm
    have m0 : M00.1 = 0 := rfl
    have e' : pm_ev tb xl xs mL_law 18 [some (.long 0), some (.ref 0), some (.ref 583), some (.int 0)] [] (pm_setI (pm_setI (mkM Y) 584 2 100) 584 3 20) = _ := e
    simp only [eL_law_0, eL_law_3, eL_law_4, eL_law_7, eL_law_8, eL_law_11, eL_law_12, eL_law_15, eL_law_16, eL_law_17, m0, k0, k1, y1, eY, hm, Option.bind_some, ret_n, List.nil_append]
    exact e'
  · show (mkM Y).1 ≤ _
    omega
  · show (mkM Y).2.1 ≤ _
    omega
end BEGIN
