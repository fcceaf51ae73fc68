/-! the law from its start -/
section BEGIN
variable {xl : Nat} {xs : Nat → Int32} {M X Y Z : pm_H}
theorem LD.same (h : LD (FF X)) (h2 : ∀ a, a < 583 → Sm X Y a) : LD (FF Y) := by
  have hk : ∀ a, a < 583 → fk (FF Y) a = fk (FF X) a := fun a p => (h2 a p).1
  have hr : ∀ a j, a < 583 → fr (FF Y) a j = fr (FF X) a j := fun a j p => (h2 a p).2.1 j
  obtain ⟨e1, e2, e3, e4, e5, e6, e7, e8, e9, e10⟩ := h
  refine ⟨?_, ?_, ?_, ?_, ?_, ?_, ?_, e8.same (fun a p q => h2 a (by omega)), e9.same (fun a p q => h2 a (by omega)), fun j hj => ⟨?_, (e10 j hj).2.same (fun a p q => h2 a (by omega))⟩⟩
  · rw [hk 0 (by omega)]; exact e1
  · rw [hr 0 0 (by omega)]; exact e2
  · rw [hr 0 1 (by omega)]; exact e3
  · rw [hr 0 2 (by omega)]; exact e4
  · rw [hr 0 3 (by omega)]; exact e5
  · rw [hk 117 (by omega)]; exact e6
  · rw [hk 582 (by omega)]; exact e7
  · rw [hr 117 j (by omega)]; exact (e10 j hj).1
def mkM (Y : pm_H) : pm_H := pm_setR (pm_new (pm_setR (pm_new (pm_setR (pm_new (pm_setR (pm_new (pm_new Y 12 5) 1 539) 583 0 (some 584)) 1 4312) 583 1 (some 585)) 1 539) 583 2 (some 586)) 1 6) 583 4 (some 587)
theorem mkM_k (h : Y.1 = 583) (a : Nat) : pm_k (mkM Y) a = if a = 587 then (1, 6) else if a = 586 then (1, 539) else if a = 585 then (1, 4312) else if a = 584 then (1, 539) else if a = 583 then (12, 5) else pm_k Y a := by
  unfold mkM
  simp only [rk, nk, r1, n1, h, Nat.reduceAdd]
theorem mkM_r (h : Y.1 = 583) (a j : Nat) : pm_rs (mkM Y) a j = if a = 583 ∧ j = 4 then some 587 else if a = 587 then none else if a = 583 ∧ j = 2 then some 586 else if a = 586 then none else if a = 583 ∧ j = 1 then some 585 else if a = 585 then none else if a = 583 ∧ j = 0 then some 584 else if a = 584 then none else if a = 583 then none else pm_rs Y a j := by
  unfold mkM
  simp only [rr, nr, r1, n1, h, Nat.reduceAdd]
theorem mkM_i (h : Y.1 = 583) (a j : Nat) : pm_is (mkM Y) a j = if a = 587 then 0 else if a = 586 then 0 else if a = 585 then 0 else if a = 584 then 0 else if a = 583 then 0 else pm_is Y a j := by
  unfold mkM
  simp only [ri, ni, r1, n1, h, Nat.reduceAdd]
end BEGIN

