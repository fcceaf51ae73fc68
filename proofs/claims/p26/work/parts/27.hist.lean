/-! the desk and the model: what is remembered -/
def LD (F : pm_F) : Prop := fk F 0 = (10, 6) ∧ fr F 0 0 = some 1 ∧ fr F 0 1 = some 59 ∧ fr F 0 2 = some 117 ∧ fr F 0 3 = some 582 ∧ fk F 117 = (5, 8) ∧ fk F 582 = (1, 8) ∧ LB F 1 ∧ LB F 59 ∧ ∀ j, j < 8 → fr F 117 j = some (118 + 58 * j) ∧ LB F (118 + 58 * j)
theorem ld0 {F : pm_F} (h : LD F) : fk F 0 = (10, 6) := h.1
theorem ld1 {F : pm_F} (h : LD F) : fr F 0 0 = some 1 := h.2.1
theorem ld2 {F : pm_F} (h : LD F) : fr F 0 1 = some 59 := h.2.2.1
theorem ld3 {F : pm_F} (h : LD F) : fr F 0 2 = some 117 := h.2.2.2.1
theorem ld4 {F : pm_F} (h : LD F) : fr F 0 3 = some 582 := h.2.2.2.2.1
theorem ld5 {F : pm_F} (h : LD F) : fk F 117 = (5, 8) := h.2.2.2.2.2.1
theorem ld6 {F : pm_F} (h : LD F) : fk F 582 = (1, 8) := h.2.2.2.2.2.2.1
theorem ldB {F : pm_F} (h : LD F) : LB F 1 := h.2.2.2.2.2.2.2.1
theorem ldF {F : pm_F} (h : LD F) : LB F 59 := h.2.2.2.2.2.2.2.2.1
theorem ldr {F : pm_F} (h : LD F) {j : Nat} (hj : j < 8) : fr F 117 j = some (118 + 58 * j) := (h.2.2.2.2.2.2.2.2.2 j hj).1
theorem ldb {F : pm_F} (h : LD F) {j : Nat} (hj : j < 8) : LB F (118 + 58 * j) := (h.2.2.2.2.2.2.2.2.2 j hj).2
/-- bounds: the reserve, the money of a hunter, its counts -/
def Bd (Rb Mb Nb : Nat) (s : St) (nA nH : Nat) : Prop :=
  (vp_in (gp s 0) 10000 ∧ vp_in (gp s 1) Rb ∧ (vp_in (gp s 2) 201 ∧ ¬ gp s 2 < 50) ∧ vp_in (gp s 3) 501) ∧ (∀ a, a < nA → (vp_in (ap s a 0) 10 ∧ ¬ ap s a 0 = 0) ∧ vp_in (ap s a 1) 10001 ∧ vp_in (ap s a 2) 20001) ∧
  (∀ h, h < nH → vp_in (hp s h 0) Mb ∧ vp_in (hp s h 1) Nb ∧ vp_in (hp s h 2) Nb ∧ vp_in (hp s h 3) Nb) ∧ ∀ h, nH ≤ h → h < 8 → ∀ j, j < 4 → hp s h j = 0
/-- all that holds of a row after N calls -/
def FI (N : Nat) (s : St) (nA nH nR : Nat) : Prop := Iv s nA nH nR ∧ Bd (1000001 + 120000 * (tn (gp s 0) / 90)) (800000 * N + 1) (8 * N + 1) s nA nH
theorem in_mono {x : Int32} {n m : Nat} (h : vp_in x n) (hn : n ≤ m) : vp_in x m := ix_v h hn
theorem FI.mono {N N' : Nat} {s : St} {nA nH nR : Nat} (h : FI N s nA nH nR) (hN : N ≤ N') : FI N' s nA nH nR := by
  obtain ⟨a, b, c, d, e⟩ := h
  exact ⟨a, b, c, fun h hh => ⟨in_mono (d h hh).1 (by omega), in_mono (d h hh).2.1 (by omega), in_mono (d h hh).2.2.1 (by omega), in_mono (d h hh).2.2.2 (by omega)⟩, e⟩
def push (H : Nat → St) (n : Nat) (s : St) : Nat → St := fun j => if n = 8 then (if j < 7 then H (j + 1) else s) else if j = n then s else H j
def nx8 (n : Nat) : Nat := if n = 8 then 8 else n + 1
def slot (n m j : Nat) : Nat := 118 + 58 * ((m + 8 - n + j) % 8)
/-- the class remembers n rows -/
def CHs (N : Nat) (I : Nat → Nat → Int32) (n m : Nat) (H : Nat → St) : Prop := I 0 4 = nI m ∧ I 0 5 = nI n ∧ m < 8 ∧ n ≤ 8 ∧ ∀ j, j < n → ∃ nA nH nR, RB I (slot n m j) (H j) nA nH nR ∧ FI N (H j) nA nH nR
theorem CHs.mono {N N' n m : Nat} {I : Nat → Nat → Int32} {H : Nat → St} (h : CHs N I n m H) (hN : N ≤ N') : CHs N' I n m H :=
  ⟨h.1, h.2.1, h.2.2.1, h.2.2.2.1, fun j hj => by
    obtain ⟨a, b, c, h1, h2⟩ := h.2.2.2.2 j hj
    exact ⟨a, b, c, h1, h2.mono hN⟩⟩
theorem CHs.to {N n m : Nat} {I I' : Nat → Nat → Int32} {H : Nat → St} (h : CHs N I n m H) (h0 : I' 0 = I 0) (hI : ∀ k, 118 ≤ k → k < 582 → I' k = I k) : CHs N I' n m H := by
  obtain ⟨h1, h2, h3, h4, h5⟩ := h
  refine ⟨by rw [h0]; exact h1, by rw [h0]; exact h2, h3, h4, fun j hj => ?_⟩
  obtain ⟨a, b, c, q1, q2⟩ := h5 j hj
  refine ⟨a, b, c, q1.to q2.1.1.1.2 q2.1.1.2.1.2 q2.1.1.2.2.1.2 (fun k g1 g2 => hI k ?_ ?_) (fun _ _ => rfl), q2⟩
  · unfold slot at g1; omega
  · unfold slot at g2
    have : (m + 8 - n + j) % 8 < 8 := Nat.mod_lt _ (by omega)
    omega
section HIST
variable {xl : Nat} {xs : Nat → Int32} {F : pm_F} {I : Nat → Nat → Int32} {s : St} {nA nH nR N n m : Nat} {H : Nat → St}
theorem X4_remember_ev (hD : LD F) (hR : RB I 1 s nA nH nR) (hF : FI N s nA nH nR) (hC : CHs N I n m H) : ∃ I' m', pm_ev tb xl xs mX4_remember 0 [some (.ref 0)] [] (pm_G F I) = some (none, pm_G F I') ∧ (RB I' 1 s nA nH nR ∧ CHs N I' (nx8 n) m' (push H n s)) ∧ ∀ k, 582 ≤ k → I' k = I k := by
  obtain ⟨h4, h5, hm, hn, hH⟩ := hC
  have h6 := hF.1.1.1.2
  have h8 := hF.1.1.2.1.2
  have h40 := hF.1.1.2.2.1.2
  obtain ⟨J, e, hRJ, hFJ⟩ := X1_copyFrom_ev (xl := xl) (xs := xs) (ldb hD hm) (ldB hD) (Or.inl (by omega)) hR hF.1
  have j0 : J 0 = I 0 := hFJ 0 (by omega)
  have e7 : (nI m = 7) = (m = 7) := eq_iff (n := 7) (by omega) (by omega)
  have e8 : ((8 : Int32) < nI (n + 1)) = (8 < n + 1) := lt_iff (i := 8) (by omega) (by omega)
  have fin : ∀ (m' : Nat), m' = (if m = 7 then 0 else m + 1) → (RB (pm_u2 (pm_u2 J 0 4 (nI m')) 0 5 (nI (nx8 n))) 1 s nA nH nR ∧ CHs N (pm_u2 (pm_u2 J 0 4 (nI m')) 0 5 (nI (nx8 n))) (nx8 n) m' (push H n s)) ∧ ∀ k, 582 ≤ k → pm_u2 (pm_u2 J 0 4 (nI m')) 0 5 (nI (nx8 n)) k = I k := by
    intro m' hm'
    have hoff : ∀ k, k ≠ 0 → pm_u2 (pm_u2 J 0 4 (nI m')) 0 5 (nI (nx8 n)) k = J k := fun k hk => by rw [u2_off hk, u2_off hk]
    refine ⟨⟨hR.to h6 h8 h40 (fun k g1 g2 => by rw [hoff k (by omega)]; exact hFJ k (by omega)) (fun _ _ => rfl), ?_, ?_, ?_, ?_, fun j hj => ?_⟩, fun k hk => by rw [hoff k (by omega)]; exact hFJ k (by omega)⟩
    · rw [u2_r, if_neg (by omega), u2_r, if_pos ⟨rfl, rfl⟩]
    · rw [u2_r, if_pos ⟨rfl, rfl⟩]
    · rw [hm']; split <;> omega
    · unfold nx8; split <;> omega
    · by_cases hlast : j + 1 = nx8 n
      · refine ⟨nA, nH, nR, ?_, ?_⟩
        · have e1 : push H n s j = s := by
            unfold push
            unfold nx8 at hlast
            split at hlast
            · rename_i h; rw [if_pos h, if_neg (by omega)]
            · rename_i h; rw [if_neg h, if_pos (by omega)]
          have e2 : slot (nx8 n) m' j = 118 + 58 * m := by
            unfold slot
            unfold nx8 at hlast ⊢
            rw [hm']
            split at hlast <;> split <;> (try split) <;> omega
          rw [e1, e2]
          exact hRJ.to h6 h8 h40 (fun k g1 g2 => hoff k (by omega)) (fun _ _ => rfl)
        · have e1 : push H n s j = s := by
            unfold push
            unfold nx8 at hlast
            split at hlast
            · rename_i h; rw [if_pos h, if_neg (by omega)]
            · rename_i h; rw [if_neg h, if_pos (by omega)]
          rw [e1]
          exact hF
      · have key : ∃ i, i < n ∧ push H n s j = H i ∧ slot (nx8 n) m' j = slot n m i ∧ slot n m i ≠ 118 + 58 * m := by
          unfold nx8 at hlast hj
          unfold push slot nx8
          by_cases h : n = 8
          · rw [if_pos h] at hlast hj
            refine ⟨j + 1, by omega, ?_, ?_, by omega⟩
            · rw [if_pos h, if_pos (by omega)]
            · rw [if_pos h, hm']; split <;> omega
          · rw [if_neg h] at hlast hj
            refine ⟨j, by omega, ?_, ?_, by omega⟩
            · rw [if_neg h, if_neg (by omega)]
            · rw [if_neg h, hm']; split <;> omega
        obtain ⟨i, hi, e1, e2, e3⟩ := key
        obtain ⟨a, b, c, q1, q2⟩ := hH i hi
        refine ⟨a, b, c, ?_, by rw [e1]; exact q2⟩
        rw [e1, e2]
        refine q1.to q2.1.1.1.2 q2.1.1.2.1.2 q2.1.1.2.2.1.2 (fun k g1 g2 => ?_) (fun _ _ => rfl)
        have hs : 118 ≤ slot n m i := by unfold slot; omega
        rw [hoff k (by omega)]
        refine hFJ k ?_
        unfold slot at e3 g1 g2
        omega
  have hj4 : J 0 4 = nI m := by rw [j0]; exact h4
  have hj5 : J 0 5 = nI n := by rw [j0]; exact h5
  simp only [eX4_remember_0, eX4_remember_1, eX4_remember_4, eX4_remember_5, eX4_remember_8, eX4_remember_9, eX4_remember_10, eX4_remember_13, eX4_remember_16, eX4_remember_17, eX4_remember_18, eX4_remember_21, eX4_remember_23, eX4_remember_26, eX4_remember_27, eX4_remember_30, eX4_remember_31, eX4_remember_34, eX4_remember_35, eX4_remember_36, eX4_remember_39, eX4_remember_40, eX4_remember_41, eX4_remember_44, eX4_remember_45, eX4_remember_46, eX4_remember_48, eX4_remember_51, eX4_remember_54, one0, and_false, false_and, gk, gr, gi, gs, rv_some, ret_i, ret_n, Option.bind_some, List.cons_append, List.nil_append, z0, z1, zi, zj, i10, i01, true_or, or_true, eq_self, not_false_eq_true, not_true_eq_false, if_true, if_false, ite_not, Decidable.not_not, and_true, true_and, or_false, false_or, Nat.reduceLeDiff, Nat.reduceMod, Nat.reduceEqDiff, ld0 hD, ld1 hD, ld3 hD, ld5 hD, ldr hD hm, lb0 (ldb hD hm), h4, ix8 hm, cl8 hm, e, hj4, hj5, e7, e8, u2_r, nI_1]
  have e9 : (8 < n + 1) = (n = 8) := propext ⟨fun _ => by omega, fun _ => by omega⟩
  simp only [e9]
  have e10 : (if n = 8 then (8 : Int32) else nI (n + 1)) = nI (nx8 n) := by
    unfold nx8
    by_cases h : n = 8
    · rw [if_pos h, if_pos h]; rfl
    · rw [if_neg h, if_neg h]
  rw [e10]
  by_cases h7 : m = 7
  · simp only [h7, if_true]
    have := fin 0 (by rw [if_pos h7])
    exact ⟨_, 0, rfl, this⟩
  · simp only [h7, if_false]
    exact ⟨_, m + 1, rfl, fin (m + 1) (by rw [if_neg h7])⟩
end HIST

