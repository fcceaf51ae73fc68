/-! a book's cells hold what the model's row says -/
def RBg (I : Nat → Nat → Int32) (o : Nat) (s : St) : Prop := I o 3 = gp s 4 ∧ I o 4 = gp s 5 ∧ I o 5 = gp s 6 ∧ I o 6 = gp s 0 ∧ I o 7 = gp s 1 ∧ I o 8 = gp s 2 ∧ I o 9 = gp s 3 ∧ I o 10 = gp s 7 ∧ I o 11 = gp s 8
def RBa (I : Nat → Nat → Int32) (o : Nat) (s : St) (a : Nat) : Prop := I (o + 2 + a) 0 = ap s a 0 ∧ I (o + 2 + a) 1 = ap s a 1 ∧ I (o + 2 + a) 2 = ap s a 2
def RBh (I : Nat → Nat → Int32) (o : Nat) (s : St) (h : Nat) : Prop := I (o + 9 + h) 0 = hp s h 0 ∧ I (o + 9 + h) 1 = hp s h 1 ∧ I (o + 9 + h) 2 = hp s h 2 ∧ I (o + 9 + h) 3 = hp s h 3
def RBr (I : Nat → Nat → Int32) (o : Nat) (s : St) (r : Nat) : Prop := I (o + 18 + r) 0 = rp s r 0 ∧ I (o + 18 + r) 1 = rp s r 1 ∧ I (o + 18 + r) 2 = rp s r 2 ∧ I (o + 18 + r) 3 = rp s r 3 ∧ I (o + 18 + r) 4 = rp s r 4 ∧ I (o + 18 + r) 5 = rp s r 5 ∧ I (o + 18 + r) 6 = rp s r 6 ∧ I (o + 18 + r) 7 = rp s r 7 ∧ I (o + 18 + r) 8 = rp s r 8 ∧ I (o + 18 + r) 9 = rp s r 10 ∧ I (o + 18 + r) 10 = rp s r 11 ∧ I (o + 18 + r) 11 = rp s r 9
def RB (I : Nat → Nat → Int32) (o : Nat) (s : St) (nA nH nR : Nat) : Prop := RBg I o s ∧ (∀ a, a < nA → RBa I o s a) ∧ (∀ h, h < nH → RBh I o s h) ∧ ∀ r, r < nR → RBr I o s r
/-- nothing but the book's cells has changed -/
def Fr (I I' : Nat → Nat → Int32) (o : Nat) : Prop := ∀ k, (k < o ∨ o + 58 ≤ k) → I' k = I k
section RBS
variable {I : Nat → Nat → Int32} {o : Nat} {s : St} {nA nH nR : Nat} {v : Int32}
theorem Fr.rf : Fr I I o := fun _ _ => rfl
theorem Fr.tr {I1 I2 : Nat → Nat → Int32} (h1 : Fr I I1 o) (h2 : Fr I1 I2 o) : Fr I I2 o := fun k hk => (h2 k hk).trans (h1 k hk)
theorem u2_r {k j k' j' : Nat} : pm_u2 I k j v k' j' = if k' = k ∧ j' = j then v else I k' j' := rfl
theorem Fr.u2 {I1 : Nat → Nat → Int32} (h : Fr I I1 o) {k j : Nat} (hk : o ≤ k ∧ k < o + 58) : Fr I (pm_u2 I1 k j v) o := fun a ha => by
  rw [u2_off (by omega)]
  exact h a ha
theorem rbg3 (h : RB I o s nA nH nR) : I o 3 = gp s 4 := h.1.1
theorem rbg4 (h : RB I o s nA nH nR) : I o 4 = gp s 5 := h.1.2.1
theorem rbg5 (h : RB I o s nA nH nR) : I o 5 = gp s 6 := h.1.2.2.1
theorem rbg6 (h : RB I o s nA nH nR) : I o 6 = gp s 0 := h.1.2.2.2.1
theorem rbg7 (h : RB I o s nA nH nR) : I o 7 = gp s 1 := h.1.2.2.2.2.1
theorem rbg8 (h : RB I o s nA nH nR) : I o 8 = gp s 2 := h.1.2.2.2.2.2.1
theorem rbg9 (h : RB I o s nA nH nR) : I o 9 = gp s 3 := h.1.2.2.2.2.2.2.1
theorem rbg10 (h : RB I o s nA nH nR) : I o 10 = gp s 7 := h.1.2.2.2.2.2.2.2.1
theorem rbg11 (h : RB I o s nA nH nR) : I o 11 = gp s 8 := h.1.2.2.2.2.2.2.2.2
theorem rba0 (h : RB I o s nA nH nR) {a : Nat} (ha : a < nA) : I (o + 2 + a) 0 = ap s a 0 := (h.2.1 a ha).1
theorem rba1 (h : RB I o s nA nH nR) {a : Nat} (ha : a < nA) : I (o + 2 + a) 1 = ap s a 1 := (h.2.1 a ha).2.1
theorem rba2 (h : RB I o s nA nH nR) {a : Nat} (ha : a < nA) : I (o + 2 + a) 2 = ap s a 2 := (h.2.1 a ha).2.2
theorem rbh0 (h : RB I o s nA nH nR) {a : Nat} (ha : a < nH) : I (o + 9 + a) 0 = hp s a 0 := (h.2.2.1 a ha).1
theorem rbh1 (h : RB I o s nA nH nR) {a : Nat} (ha : a < nH) : I (o + 9 + a) 1 = hp s a 1 := (h.2.2.1 a ha).2.1
theorem rbh2 (h : RB I o s nA nH nR) {a : Nat} (ha : a < nH) : I (o + 9 + a) 2 = hp s a 2 := (h.2.2.1 a ha).2.2.1
theorem rbh3 (h : RB I o s nA nH nR) {a : Nat} (ha : a < nH) : I (o + 9 + a) 3 = hp s a 3 := (h.2.2.1 a ha).2.2.2
theorem rbr0 (h : RB I o s nA nH nR) {a : Nat} (ha : a < nR) : I (o + 18 + a) 0 = rp s a 0 := (h.2.2.2 a ha).1
theorem rbr1 (h : RB I o s nA nH nR) {a : Nat} (ha : a < nR) : I (o + 18 + a) 1 = rp s a 1 := (h.2.2.2 a ha).2.1
theorem rbr2 (h : RB I o s nA nH nR) {a : Nat} (ha : a < nR) : I (o + 18 + a) 2 = rp s a 2 := (h.2.2.2 a ha).2.2.1
theorem rbr3 (h : RB I o s nA nH nR) {a : Nat} (ha : a < nR) : I (o + 18 + a) 3 = rp s a 3 := (h.2.2.2 a ha).2.2.2.1
theorem rbr4 (h : RB I o s nA nH nR) {a : Nat} (ha : a < nR) : I (o + 18 + a) 4 = rp s a 4 := (h.2.2.2 a ha).2.2.2.2.1
theorem rbr5 (h : RB I o s nA nH nR) {a : Nat} (ha : a < nR) : I (o + 18 + a) 5 = rp s a 5 := (h.2.2.2 a ha).2.2.2.2.2.1
theorem rbr6 (h : RB I o s nA nH nR) {a : Nat} (ha : a < nR) : I (o + 18 + a) 6 = rp s a 6 := (h.2.2.2 a ha).2.2.2.2.2.2.1
theorem rbr7 (h : RB I o s nA nH nR) {a : Nat} (ha : a < nR) : I (o + 18 + a) 7 = rp s a 7 := (h.2.2.2 a ha).2.2.2.2.2.2.2.1
theorem rbr8 (h : RB I o s nA nH nR) {a : Nat} (ha : a < nR) : I (o + 18 + a) 8 = rp s a 8 := (h.2.2.2 a ha).2.2.2.2.2.2.2.2.1
theorem rbr9 (h : RB I o s nA nH nR) {a : Nat} (ha : a < nR) : I (o + 18 + a) 9 = rp s a 10 := (h.2.2.2 a ha).2.2.2.2.2.2.2.2.2.1
theorem rbr10 (h : RB I o s nA nH nR) {a : Nat} (ha : a < nR) : I (o + 18 + a) 10 = rp s a 11 := (h.2.2.2 a ha).2.2.2.2.2.2.2.2.2.2.1
theorem rbr11 (h : RB I o s nA nH nR) {a : Nat} (ha : a < nR) : I (o + 18 + a) 11 = rp s a 9 := (h.2.2.2 a ha).2.2.2.2.2.2.2.2.2.2.2
theorem RBg.to {I' : Nat → Nat → Int32} {s' : St} (h : RBg I o s) (hI : I' o = I o) (hs : ∀ g, g < 9 → gp s' g = gp s g) : RBg I' o s' := by
  unfold RBg at h ⊢
  rw [hI, hs 0 (by decide), hs 1 (by decide), hs 2 (by decide), hs 3 (by decide), hs 4 (by decide), hs 5 (by decide), hs 6 (by decide), hs 7 (by decide), hs 8 (by decide)]
  exact h
theorem RBa.to {I' : Nat → Nat → Int32} {s' : St} {a : Nat} (h : RBa I o s a) (hI : I' (o + 2 + a) = I (o + 2 + a)) (hs : ∀ j, j < 3 → ap s' a j = ap s a j) : RBa I' o s' a := by
  unfold RBa at h ⊢
  rw [hI, hs 0 (by decide), hs 1 (by decide), hs 2 (by decide)]
  exact h
theorem RBh.to {I' : Nat → Nat → Int32} {s' : St} {a : Nat} (h : RBh I o s a) (hI : I' (o + 9 + a) = I (o + 9 + a)) (hs : ∀ j, j < 4 → hp s' a j = hp s a j) : RBh I' o s' a := by
  unfold RBh at h ⊢
  rw [hI, hs 0 (by decide), hs 1 (by decide), hs 2 (by decide), hs 3 (by decide)]
  exact h
theorem RBr.to {I' : Nat → Nat → Int32} {s' : St} {a : Nat} (h : RBr I o s a) (hI : I' (o + 18 + a) = I (o + 18 + a)) (hs : ∀ j, j < 12 → rp s' a j = rp s a j) : RBr I' o s' a := by
  unfold RBr at h ⊢
  rw [hI, hs 0 (by decide), hs 1 (by decide), hs 2 (by decide), hs 3 (by decide), hs 4 (by decide), hs 5 (by decide), hs 6 (by decide), hs 7 (by decide), hs 8 (by decide), hs 9 (by decide), hs 10 (by decide), hs 11 (by decide)]
  exact h
theorem RB.to {I' : Nat → Nat → Int32} {s' : St} (h : RB I o s nA nH nR) (h6 : nA ≤ 6) (h8 : nH ≤ 8) (h40 : nR ≤ 40) (hI : ∀ k, o ≤ k → k < o + 58 → I' k = I k) (hs : ∀ k, k < 539 → s' k = s k) : RB I' o s' nA nH nR :=
  ⟨h.1.to (hI o (by omega) (by omega)) (fun g hg => hs g (by omega)), fun a ha => (h.2.1 a ha).to (hI _ (by omega) (by omega)) (fun j hj => hs _ (by omega)), fun a ha => (h.2.2.1 a ha).to (hI _ (by omega) (by omega)) (fun j hj => hs _ (by omega)), fun a ha => (h.2.2.2 a ha).to (hI _ (by omega) (by omega)) (fun j hj => hs _ (by omega))⟩
theorem RB.off {k j : Nat} (h : RB I o s nA nH nR) (h6 : nA ≤ 6) (h8 : nH ≤ 8) (h40 : nR ≤ 40) (hk : k < o ∨ o + 58 ≤ k) : RB (pm_u2 I k j v) o s nA nH nR := h.to h6 h8 h40 (fun a h1 h2 => u2_off (by omega)) (fun _ _ => rfl)
theorem RB.wg3 (h : RB I o s nA nH nR) (h6 : nA ≤ 6) (h8 : nH ≤ 8) (h40 : nR ≤ 40) : RB (pm_u2 I o 3 v) o (sG s 4 v) nA nH nR := by
  refine ⟨⟨?_, ?_, ?_, ?_, ?_, ?_, ?_, ?_, ?_⟩, fun a ha => (h.2.1 a ha).to (u2_off (by omega)) (fun j hj => ap_sG (by decide)), fun a ha => (h.2.2.1 a ha).to (u2_off (by omega)) (fun j hj => hp_sG (by decide)), fun a ha => (h.2.2.2 a ha).to (u2_off (by omega)) (fun j hj => rp_sG (by decide))⟩
  · show (if o = o ∧ 3 = 3 then v else I o 3) = if 4 = 4 then v else gp s 4
    rw [if_pos ⟨rfl, rfl⟩, if_pos rfl]
  · show (if o = o ∧ 4 = 3 then v else I o 4) = if 5 = 4 then v else gp s 5
    rw [if_neg (by omega), if_neg (by omega)]; exact rbg4 h
  · show (if o = o ∧ 5 = 3 then v else I o 5) = if 6 = 4 then v else gp s 6
    rw [if_neg (by omega), if_neg (by omega)]; exact rbg5 h
  · show (if o = o ∧ 6 = 3 then v else I o 6) = if 0 = 4 then v else gp s 0
    rw [if_neg (by omega), if_neg (by omega)]; exact rbg6 h
  · show (if o = o ∧ 7 = 3 then v else I o 7) = if 1 = 4 then v else gp s 1
    rw [if_neg (by omega), if_neg (by omega)]; exact rbg7 h
  · show (if o = o ∧ 8 = 3 then v else I o 8) = if 2 = 4 then v else gp s 2
    rw [if_neg (by omega), if_neg (by omega)]; exact rbg8 h
  · show (if o = o ∧ 9 = 3 then v else I o 9) = if 3 = 4 then v else gp s 3
    rw [if_neg (by omega), if_neg (by omega)]; exact rbg9 h
  · show (if o = o ∧ 10 = 3 then v else I o 10) = if 7 = 4 then v else gp s 7
    rw [if_neg (by omega), if_neg (by omega)]; exact rbg10 h
  · show (if o = o ∧ 11 = 3 then v else I o 11) = if 8 = 4 then v else gp s 8
    rw [if_neg (by omega), if_neg (by omega)]; exact rbg11 h
theorem RB.wg4 (h : RB I o s nA nH nR) (h6 : nA ≤ 6) (h8 : nH ≤ 8) (h40 : nR ≤ 40) : RB (pm_u2 I o 4 v) o (sG s 5 v) nA nH nR := by
  refine ⟨⟨?_, ?_, ?_, ?_, ?_, ?_, ?_, ?_, ?_⟩, fun a ha => (h.2.1 a ha).to (u2_off (by omega)) (fun j hj => ap_sG (by decide)), fun a ha => (h.2.2.1 a ha).to (u2_off (by omega)) (fun j hj => hp_sG (by decide)), fun a ha => (h.2.2.2 a ha).to (u2_off (by omega)) (fun j hj => rp_sG (by decide))⟩
  · show (if o = o ∧ 3 = 4 then v else I o 3) = if 4 = 5 then v else gp s 4
    rw [if_neg (by omega), if_neg (by omega)]; exact rbg3 h
  · show (if o = o ∧ 4 = 4 then v else I o 4) = if 5 = 5 then v else gp s 5
    rw [if_pos ⟨rfl, rfl⟩, if_pos rfl]
  · show (if o = o ∧ 5 = 4 then v else I o 5) = if 6 = 5 then v else gp s 6
    rw [if_neg (by omega), if_neg (by omega)]; exact rbg5 h
  · show (if o = o ∧ 6 = 4 then v else I o 6) = if 0 = 5 then v else gp s 0
    rw [if_neg (by omega), if_neg (by omega)]; exact rbg6 h
  · show (if o = o ∧ 7 = 4 then v else I o 7) = if 1 = 5 then v else gp s 1
    rw [if_neg (by omega), if_neg (by omega)]; exact rbg7 h
  · show (if o = o ∧ 8 = 4 then v else I o 8) = if 2 = 5 then v else gp s 2
    rw [if_neg (by omega), if_neg (by omega)]; exact rbg8 h
  · show (if o = o ∧ 9 = 4 then v else I o 9) = if 3 = 5 then v else gp s 3
    rw [if_neg (by omega), if_neg (by omega)]; exact rbg9 h
  · show (if o = o ∧ 10 = 4 then v else I o 10) = if 7 = 5 then v else gp s 7
    rw [if_neg (by omega), if_neg (by omega)]; exact rbg10 h
  · show (if o = o ∧ 11 = 4 then v else I o 11) = if 8 = 5 then v else gp s 8
    rw [if_neg (by omega), if_neg (by omega)]; exact rbg11 h
theorem RB.wg5 (h : RB I o s nA nH nR) (h6 : nA ≤ 6) (h8 : nH ≤ 8) (h40 : nR ≤ 40) : RB (pm_u2 I o 5 v) o (sG s 6 v) nA nH nR := by
  refine ⟨⟨?_, ?_, ?_, ?_, ?_, ?_, ?_, ?_, ?_⟩, fun a ha => (h.2.1 a ha).to (u2_off (by omega)) (fun j hj => ap_sG (by decide)), fun a ha => (h.2.2.1 a ha).to (u2_off (by omega)) (fun j hj => hp_sG (by decide)), fun a ha => (h.2.2.2 a ha).to (u2_off (by omega)) (fun j hj => rp_sG (by decide))⟩
  · show (if o = o ∧ 3 = 5 then v else I o 3) = if 4 = 6 then v else gp s 4
    rw [if_neg (by omega), if_neg (by omega)]; exact rbg3 h
  · show (if o = o ∧ 4 = 5 then v else I o 4) = if 5 = 6 then v else gp s 5
    rw [if_neg (by omega), if_neg (by omega)]; exact rbg4 h
  · show (if o = o ∧ 5 = 5 then v else I o 5) = if 6 = 6 then v else gp s 6
    rw [if_pos ⟨rfl, rfl⟩, if_pos rfl]
  · show (if o = o ∧ 6 = 5 then v else I o 6) = if 0 = 6 then v else gp s 0
    rw [if_neg (by omega), if_neg (by omega)]; exact rbg6 h
  · show (if o = o ∧ 7 = 5 then v else I o 7) = if 1 = 6 then v else gp s 1
    rw [if_neg (by omega), if_neg (by omega)]; exact rbg7 h
  · show (if o = o ∧ 8 = 5 then v else I o 8) = if 2 = 6 then v else gp s 2
    rw [if_neg (by omega), if_neg (by omega)]; exact rbg8 h
  · show (if o = o ∧ 9 = 5 then v else I o 9) = if 3 = 6 then v else gp s 3
    rw [if_neg (by omega), if_neg (by omega)]; exact rbg9 h
  · show (if o = o ∧ 10 = 5 then v else I o 10) = if 7 = 6 then v else gp s 7
    rw [if_neg (by omega), if_neg (by omega)]; exact rbg10 h
  · show (if o = o ∧ 11 = 5 then v else I o 11) = if 8 = 6 then v else gp s 8
    rw [if_neg (by omega), if_neg (by omega)]; exact rbg11 h
theorem RB.wg6 (h : RB I o s nA nH nR) (h6 : nA ≤ 6) (h8 : nH ≤ 8) (h40 : nR ≤ 40) : RB (pm_u2 I o 6 v) o (sG s 0 v) nA nH nR := by
  refine ⟨⟨?_, ?_, ?_, ?_, ?_, ?_, ?_, ?_, ?_⟩, fun a ha => (h.2.1 a ha).to (u2_off (by omega)) (fun j hj => ap_sG (by decide)), fun a ha => (h.2.2.1 a ha).to (u2_off (by omega)) (fun j hj => hp_sG (by decide)), fun a ha => (h.2.2.2 a ha).to (u2_off (by omega)) (fun j hj => rp_sG (by decide))⟩
  · show (if o = o ∧ 3 = 6 then v else I o 3) = if 4 = 0 then v else gp s 4
    rw [if_neg (by omega), if_neg (by omega)]; exact rbg3 h
  · show (if o = o ∧ 4 = 6 then v else I o 4) = if 5 = 0 then v else gp s 5
    rw [if_neg (by omega), if_neg (by omega)]; exact rbg4 h
  · show (if o = o ∧ 5 = 6 then v else I o 5) = if 6 = 0 then v else gp s 6
    rw [if_neg (by omega), if_neg (by omega)]; exact rbg5 h
  · show (if o = o ∧ 6 = 6 then v else I o 6) = if 0 = 0 then v else gp s 0
    rw [if_pos ⟨rfl, rfl⟩, if_pos rfl]
  · show (if o = o ∧ 7 = 6 then v else I o 7) = if 1 = 0 then v else gp s 1
    rw [if_neg (by omega), if_neg (by omega)]; exact rbg7 h
  · show (if o = o ∧ 8 = 6 then v else I o 8) = if 2 = 0 then v else gp s 2
    rw [if_neg (by omega), if_neg (by omega)]; exact rbg8 h
  · show (if o = o ∧ 9 = 6 then v else I o 9) = if 3 = 0 then v else gp s 3
    rw [if_neg (by omega), if_neg (by omega)]; exact rbg9 h
  · show (if o = o ∧ 10 = 6 then v else I o 10) = if 7 = 0 then v else gp s 7
    rw [if_neg (by omega), if_neg (by omega)]; exact rbg10 h
  · show (if o = o ∧ 11 = 6 then v else I o 11) = if 8 = 0 then v else gp s 8
    rw [if_neg (by omega), if_neg (by omega)]; exact rbg11 h
theorem RB.wg7 (h : RB I o s nA nH nR) (h6 : nA ≤ 6) (h8 : nH ≤ 8) (h40 : nR ≤ 40) : RB (pm_u2 I o 7 v) o (sG s 1 v) nA nH nR := by
  refine ⟨⟨?_, ?_, ?_, ?_, ?_, ?_, ?_, ?_, ?_⟩, fun a ha => (h.2.1 a ha).to (u2_off (by omega)) (fun j hj => ap_sG (by decide)), fun a ha => (h.2.2.1 a ha).to (u2_off (by omega)) (fun j hj => hp_sG (by decide)), fun a ha => (h.2.2.2 a ha).to (u2_off (by omega)) (fun j hj => rp_sG (by decide))⟩
  · show (if o = o ∧ 3 = 7 then v else I o 3) = if 4 = 1 then v else gp s 4
    rw [if_neg (by omega), if_neg (by omega)]; exact rbg3 h
  · show (if o = o ∧ 4 = 7 then v else I o 4) = if 5 = 1 then v else gp s 5
    rw [if_neg (by omega), if_neg (by omega)]; exact rbg4 h
  · show (if o = o ∧ 5 = 7 then v else I o 5) = if 6 = 1 then v else gp s 6
    rw [if_neg (by omega), if_neg (by omega)]; exact rbg5 h
  · show (if o = o ∧ 6 = 7 then v else I o 6) = if 0 = 1 then v else gp s 0
    rw [if_neg (by omega), if_neg (by omega)]; exact rbg6 h
  · show (if o = o ∧ 7 = 7 then v else I o 7) = if 1 = 1 then v else gp s 1
    rw [if_pos ⟨rfl, rfl⟩, if_pos rfl]
  · show (if o = o ∧ 8 = 7 then v else I o 8) = if 2 = 1 then v else gp s 2
    rw [if_neg (by omega), if_neg (by omega)]; exact rbg8 h
  · show (if o = o ∧ 9 = 7 then v else I o 9) = if 3 = 1 then v else gp s 3
    rw [if_neg (by omega), if_neg (by omega)]; exact rbg9 h
  · show (if o = o ∧ 10 = 7 then v else I o 10) = if 7 = 1 then v else gp s 7
    rw [if_neg (by omega), if_neg (by omega)]; exact rbg10 h
  · show (if o = o ∧ 11 = 7 then v else I o 11) = if 8 = 1 then v else gp s 8
    rw [if_neg (by omega), if_neg (by omega)]; exact rbg11 h
theorem RB.wg8 (h : RB I o s nA nH nR) (h6 : nA ≤ 6) (h8 : nH ≤ 8) (h40 : nR ≤ 40) : RB (pm_u2 I o 8 v) o (sG s 2 v) nA nH nR := by
  refine ⟨⟨?_, ?_, ?_, ?_, ?_, ?_, ?_, ?_, ?_⟩, fun a ha => (h.2.1 a ha).to (u2_off (by omega)) (fun j hj => ap_sG (by decide)), fun a ha => (h.2.2.1 a ha).to (u2_off (by omega)) (fun j hj => hp_sG (by decide)), fun a ha => (h.2.2.2 a ha).to (u2_off (by omega)) (fun j hj => rp_sG (by decide))⟩
  · show (if o = o ∧ 3 = 8 then v else I o 3) = if 4 = 2 then v else gp s 4
    rw [if_neg (by omega), if_neg (by omega)]; exact rbg3 h
  · show (if o = o ∧ 4 = 8 then v else I o 4) = if 5 = 2 then v else gp s 5
    rw [if_neg (by omega), if_neg (by omega)]; exact rbg4 h
  · show (if o = o ∧ 5 = 8 then v else I o 5) = if 6 = 2 then v else gp s 6
    rw [if_neg (by omega), if_neg (by omega)]; exact rbg5 h
  · show (if o = o ∧ 6 = 8 then v else I o 6) = if 0 = 2 then v else gp s 0
    rw [if_neg (by omega), if_neg (by omega)]; exact rbg6 h
  · show (if o = o ∧ 7 = 8 then v else I o 7) = if 1 = 2 then v else gp s 1
    rw [if_neg (by omega), if_neg (by omega)]; exact rbg7 h
  · show (if o = o ∧ 8 = 8 then v else I o 8) = if 2 = 2 then v else gp s 2
    rw [if_pos ⟨rfl, rfl⟩, if_pos rfl]
  · show (if o = o ∧ 9 = 8 then v else I o 9) = if 3 = 2 then v else gp s 3
    rw [if_neg (by omega), if_neg (by omega)]; exact rbg9 h
  · show (if o = o ∧ 10 = 8 then v else I o 10) = if 7 = 2 then v else gp s 7
    rw [if_neg (by omega), if_neg (by omega)]; exact rbg10 h
  · show (if o = o ∧ 11 = 8 then v else I o 11) = if 8 = 2 then v else gp s 8
    rw [if_neg (by omega), if_neg (by omega)]; exact rbg11 h
theorem RB.wg9 (h : RB I o s nA nH nR) (h6 : nA ≤ 6) (h8 : nH ≤ 8) (h40 : nR ≤ 40) : RB (pm_u2 I o 9 v) o (sG s 3 v) nA nH nR := by
  refine ⟨⟨?_, ?_, ?_, ?_, ?_, ?_, ?_, ?_, ?_⟩, fun a ha => (h.2.1 a ha).to (u2_off (by omega)) (fun j hj => ap_sG (by decide)), fun a ha => (h.2.2.1 a ha).to (u2_off (by omega)) (fun j hj => hp_sG (by decide)), fun a ha => (h.2.2.2 a ha).to (u2_off (by omega)) (fun j hj => rp_sG (by decide))⟩
  · show (if o = o ∧ 3 = 9 then v else I o 3) = if 4 = 3 then v else gp s 4
    rw [if_neg (by omega), if_neg (by omega)]; exact rbg3 h
  · show (if o = o ∧ 4 = 9 then v else I o 4) = if 5 = 3 then v else gp s 5
    rw [if_neg (by omega), if_neg (by omega)]; exact rbg4 h
  · show (if o = o ∧ 5 = 9 then v else I o 5) = if 6 = 3 then v else gp s 6
    rw [if_neg (by omega), if_neg (by omega)]; exact rbg5 h
  · show (if o = o ∧ 6 = 9 then v else I o 6) = if 0 = 3 then v else gp s 0
    rw [if_neg (by omega), if_neg (by omega)]; exact rbg6 h
  · show (if o = o ∧ 7 = 9 then v else I o 7) = if 1 = 3 then v else gp s 1
    rw [if_neg (by omega), if_neg (by omega)]; exact rbg7 h
  · show (if o = o ∧ 8 = 9 then v else I o 8) = if 2 = 3 then v else gp s 2
    rw [if_neg (by omega), if_neg (by omega)]; exact rbg8 h
  · show (if o = o ∧ 9 = 9 then v else I o 9) = if 3 = 3 then v else gp s 3
    rw [if_pos ⟨rfl, rfl⟩, if_pos rfl]
  · show (if o = o ∧ 10 = 9 then v else I o 10) = if 7 = 3 then v else gp s 7
    rw [if_neg (by omega), if_neg (by omega)]; exact rbg10 h
  · show (if o = o ∧ 11 = 9 then v else I o 11) = if 8 = 3 then v else gp s 8
    rw [if_neg (by omega), if_neg (by omega)]; exact rbg11 h
theorem RB.wg10 (h : RB I o s nA nH nR) (h6 : nA ≤ 6) (h8 : nH ≤ 8) (h40 : nR ≤ 40) : RB (pm_u2 I o 10 v) o (sG s 7 v) nA nH nR := by
  refine ⟨⟨?_, ?_, ?_, ?_, ?_, ?_, ?_, ?_, ?_⟩, fun a ha => (h.2.1 a ha).to (u2_off (by omega)) (fun j hj => ap_sG (by decide)), fun a ha => (h.2.2.1 a ha).to (u2_off (by omega)) (fun j hj => hp_sG (by decide)), fun a ha => (h.2.2.2 a ha).to (u2_off (by omega)) (fun j hj => rp_sG (by decide))⟩
  · show (if o = o ∧ 3 = 10 then v else I o 3) = if 4 = 7 then v else gp s 4
    rw [if_neg (by omega), if_neg (by omega)]; exact rbg3 h
  · show (if o = o ∧ 4 = 10 then v else I o 4) = if 5 = 7 then v else gp s 5
    rw [if_neg (by omega), if_neg (by omega)]; exact rbg4 h
  · show (if o = o ∧ 5 = 10 then v else I o 5) = if 6 = 7 then v else gp s 6
    rw [if_neg (by omega), if_neg (by omega)]; exact rbg5 h
  · show (if o = o ∧ 6 = 10 then v else I o 6) = if 0 = 7 then v else gp s 0
    rw [if_neg (by omega), if_neg (by omega)]; exact rbg6 h
  · show (if o = o ∧ 7 = 10 then v else I o 7) = if 1 = 7 then v else gp s 1
    rw [if_neg (by omega), if_neg (by omega)]; exact rbg7 h
  · show (if o = o ∧ 8 = 10 then v else I o 8) = if 2 = 7 then v else gp s 2
    rw [if_neg (by omega), if_neg (by omega)]; exact rbg8 h
  · show (if o = o ∧ 9 = 10 then v else I o 9) = if 3 = 7 then v else gp s 3
    rw [if_neg (by omega), if_neg (by omega)]; exact rbg9 h
  · show (if o = o ∧ 10 = 10 then v else I o 10) = if 7 = 7 then v else gp s 7
    rw [if_pos ⟨rfl, rfl⟩, if_pos rfl]
  · show (if o = o ∧ 11 = 10 then v else I o 11) = if 8 = 7 then v else gp s 8
    rw [if_neg (by omega), if_neg (by omega)]; exact rbg11 h
theorem RB.wg11 (h : RB I o s nA nH nR) (h6 : nA ≤ 6) (h8 : nH ≤ 8) (h40 : nR ≤ 40) : RB (pm_u2 I o 11 v) o (sG s 8 v) nA nH nR := by
  refine ⟨⟨?_, ?_, ?_, ?_, ?_, ?_, ?_, ?_, ?_⟩, fun a ha => (h.2.1 a ha).to (u2_off (by omega)) (fun j hj => ap_sG (by decide)), fun a ha => (h.2.2.1 a ha).to (u2_off (by omega)) (fun j hj => hp_sG (by decide)), fun a ha => (h.2.2.2 a ha).to (u2_off (by omega)) (fun j hj => rp_sG (by decide))⟩
  · show (if o = o ∧ 3 = 11 then v else I o 3) = if 4 = 8 then v else gp s 4
    rw [if_neg (by omega), if_neg (by omega)]; exact rbg3 h
  · show (if o = o ∧ 4 = 11 then v else I o 4) = if 5 = 8 then v else gp s 5
    rw [if_neg (by omega), if_neg (by omega)]; exact rbg4 h
  · show (if o = o ∧ 5 = 11 then v else I o 5) = if 6 = 8 then v else gp s 6
    rw [if_neg (by omega), if_neg (by omega)]; exact rbg5 h
  · show (if o = o ∧ 6 = 11 then v else I o 6) = if 0 = 8 then v else gp s 0
    rw [if_neg (by omega), if_neg (by omega)]; exact rbg6 h
  · show (if o = o ∧ 7 = 11 then v else I o 7) = if 1 = 8 then v else gp s 1
    rw [if_neg (by omega), if_neg (by omega)]; exact rbg7 h
  · show (if o = o ∧ 8 = 11 then v else I o 8) = if 2 = 8 then v else gp s 2
    rw [if_neg (by omega), if_neg (by omega)]; exact rbg8 h
  · show (if o = o ∧ 9 = 11 then v else I o 9) = if 3 = 8 then v else gp s 3
    rw [if_neg (by omega), if_neg (by omega)]; exact rbg9 h
  · show (if o = o ∧ 10 = 11 then v else I o 10) = if 7 = 8 then v else gp s 7
    rw [if_neg (by omega), if_neg (by omega)]; exact rbg10 h
  · show (if o = o ∧ 11 = 11 then v else I o 11) = if 8 = 8 then v else gp s 8
    rw [if_pos ⟨rfl, rfl⟩, if_pos rfl]
theorem RB.wa0 (h : RB I o s nA nH nR) (h6 : nA ≤ 6) (h8 : nH ≤ 8) (h40 : nR ≤ 40) {q : Nat} (hq : q < 6) : RB (pm_u2 I (o + 2 + q) 0 v) o (sA s q 0 v) nA nH nR := by
  refine ⟨h.1.to (u2_off (by omega)) (fun g hg => gp_sA hg), fun a ha => ?_, fun a ha => (h.2.2.1 a ha).to (u2_off (by omega)) (fun j hj => hp_sA hq (by decide)), fun a ha => (h.2.2.2 a ha).to (u2_off (by omega)) (fun j hj => rp_sA hq (by decide))⟩
  by_cases e : a = q
  · subst e
    refine ⟨?_, ?_, ?_⟩
    · rw [u2_r, if_pos ⟨rfl, rfl⟩, ap_sA (by decide) (by decide), if_pos ⟨rfl, rfl⟩]
    · rw [u2_r, if_neg (by omega), ap_sA (by decide) (by decide), if_neg (by omega)]; exact rba1 h ha
    · rw [u2_r, if_neg (by omega), ap_sA (by decide) (by decide), if_neg (by omega)]; exact rba2 h ha
  · exact (h.2.1 a ha).to (u2_off (by omega)) (fun j hj => by rw [ap_sA hj (by decide), if_neg (fun x => e x.1)])
theorem RB.wa1 (h : RB I o s nA nH nR) (h6 : nA ≤ 6) (h8 : nH ≤ 8) (h40 : nR ≤ 40) {q : Nat} (hq : q < 6) : RB (pm_u2 I (o + 2 + q) 1 v) o (sA s q 1 v) nA nH nR := by
  refine ⟨h.1.to (u2_off (by omega)) (fun g hg => gp_sA hg), fun a ha => ?_, fun a ha => (h.2.2.1 a ha).to (u2_off (by omega)) (fun j hj => hp_sA hq (by decide)), fun a ha => (h.2.2.2 a ha).to (u2_off (by omega)) (fun j hj => rp_sA hq (by decide))⟩
  by_cases e : a = q
  · subst e
    refine ⟨?_, ?_, ?_⟩
    · rw [u2_r, if_neg (by omega), ap_sA (by decide) (by decide), if_neg (by omega)]; exact rba0 h ha
    · rw [u2_r, if_pos ⟨rfl, rfl⟩, ap_sA (by decide) (by decide), if_pos ⟨rfl, rfl⟩]
    · rw [u2_r, if_neg (by omega), ap_sA (by decide) (by decide), if_neg (by omega)]; exact rba2 h ha
  · exact (h.2.1 a ha).to (u2_off (by omega)) (fun j hj => by rw [ap_sA hj (by decide), if_neg (fun x => e x.1)])
theorem RB.wa2 (h : RB I o s nA nH nR) (h6 : nA ≤ 6) (h8 : nH ≤ 8) (h40 : nR ≤ 40) {q : Nat} (hq : q < 6) : RB (pm_u2 I (o + 2 + q) 2 v) o (sA s q 2 v) nA nH nR := by
  refine ⟨h.1.to (u2_off (by omega)) (fun g hg => gp_sA hg), fun a ha => ?_, fun a ha => (h.2.2.1 a ha).to (u2_off (by omega)) (fun j hj => hp_sA hq (by decide)), fun a ha => (h.2.2.2 a ha).to (u2_off (by omega)) (fun j hj => rp_sA hq (by decide))⟩
  by_cases e : a = q
  · subst e
    refine ⟨?_, ?_, ?_⟩
    · rw [u2_r, if_neg (by omega), ap_sA (by decide) (by decide), if_neg (by omega)]; exact rba0 h ha
    · rw [u2_r, if_neg (by omega), ap_sA (by decide) (by decide), if_neg (by omega)]; exact rba1 h ha
    · rw [u2_r, if_pos ⟨rfl, rfl⟩, ap_sA (by decide) (by decide), if_pos ⟨rfl, rfl⟩]
  · exact (h.2.1 a ha).to (u2_off (by omega)) (fun j hj => by rw [ap_sA hj (by decide), if_neg (fun x => e x.1)])
theorem RB.wh0 (h : RB I o s nA nH nR) (h6 : nA ≤ 6) (h8 : nH ≤ 8) (h40 : nR ≤ 40) {q : Nat} (hq : q < 8) : RB (pm_u2 I (o + 9 + q) 0 v) o (sH s q 0 v) nA nH nR := by
  refine ⟨h.1.to (u2_off (by omega)) (fun g hg => gp_sH hg), fun a ha => (h.2.1 a ha).to (u2_off (by omega)) (fun j hj => ap_sH (by omega) hj), fun a ha => ?_, fun a ha => (h.2.2.2 a ha).to (u2_off (by omega)) (fun j hj => rp_sH hq (by decide))⟩
  by_cases e : a = q
  · subst e
    refine ⟨?_, ?_, ?_, ?_⟩
    · rw [u2_r, if_pos ⟨rfl, rfl⟩, hp_sH (by decide) (by decide), if_pos ⟨rfl, rfl⟩]
    · rw [u2_r, if_neg (by omega), hp_sH (by decide) (by decide), if_neg (by omega)]; exact rbh1 h ha
    · rw [u2_r, if_neg (by omega), hp_sH (by decide) (by decide), if_neg (by omega)]; exact rbh2 h ha
    · rw [u2_r, if_neg (by omega), hp_sH (by decide) (by decide), if_neg (by omega)]; exact rbh3 h ha
  · exact (h.2.2.1 a ha).to (u2_off (by omega)) (fun j hj => by rw [hp_sH hj (by decide), if_neg (fun x => e x.1)])
theorem RB.wh1 (h : RB I o s nA nH nR) (h6 : nA ≤ 6) (h8 : nH ≤ 8) (h40 : nR ≤ 40) {q : Nat} (hq : q < 8) : RB (pm_u2 I (o + 9 + q) 1 v) o (sH s q 1 v) nA nH nR := by
  refine ⟨h.1.to (u2_off (by omega)) (fun g hg => gp_sH hg), fun a ha => (h.2.1 a ha).to (u2_off (by omega)) (fun j hj => ap_sH (by omega) hj), fun a ha => ?_, fun a ha => (h.2.2.2 a ha).to (u2_off (by omega)) (fun j hj => rp_sH hq (by decide))⟩
  by_cases e : a = q
  · subst e
    refine ⟨?_, ?_, ?_, ?_⟩
    · rw [u2_r, if_neg (by omega), hp_sH (by decide) (by decide), if_neg (by omega)]; exact rbh0 h ha
    · rw [u2_r, if_pos ⟨rfl, rfl⟩, hp_sH (by decide) (by decide), if_pos ⟨rfl, rfl⟩]
    · rw [u2_r, if_neg (by omega), hp_sH (by decide) (by decide), if_neg (by omega)]; exact rbh2 h ha
    · rw [u2_r, if_neg (by omega), hp_sH (by decide) (by decide), if_neg (by omega)]; exact rbh3 h ha
  · exact (h.2.2.1 a ha).to (u2_off (by omega)) (fun j hj => by rw [hp_sH hj (by decide), if_neg (fun x => e x.1)])
theorem RB.wh2 (h : RB I o s nA nH nR) (h6 : nA ≤ 6) (h8 : nH ≤ 8) (h40 : nR ≤ 40) {q : Nat} (hq : q < 8) : RB (pm_u2 I (o + 9 + q) 2 v) o (sH s q 2 v) nA nH nR := by
  refine ⟨h.1.to (u2_off (by omega)) (fun g hg => gp_sH hg), fun a ha => (h.2.1 a ha).to (u2_off (by omega)) (fun j hj => ap_sH (by omega) hj), fun a ha => ?_, fun a ha => (h.2.2.2 a ha).to (u2_off (by omega)) (fun j hj => rp_sH hq (by decide))⟩
  by_cases e : a = q
  · subst e
    refine ⟨?_, ?_, ?_, ?_⟩
    · rw [u2_r, if_neg (by omega), hp_sH (by decide) (by decide), if_neg (by omega)]; exact rbh0 h ha
    · rw [u2_r, if_neg (by omega), hp_sH (by decide) (by decide), if_neg (by omega)]; exact rbh1 h ha
    · rw [u2_r, if_pos ⟨rfl, rfl⟩, hp_sH (by decide) (by decide), if_pos ⟨rfl, rfl⟩]
    · rw [u2_r, if_neg (by omega), hp_sH (by decide) (by decide), if_neg (by omega)]; exact rbh3 h ha
  · exact (h.2.2.1 a ha).to (u2_off (by omega)) (fun j hj => by rw [hp_sH hj (by decide), if_neg (fun x => e x.1)])
theorem RB.wh3 (h : RB I o s nA nH nR) (h6 : nA ≤ 6) (h8 : nH ≤ 8) (h40 : nR ≤ 40) {q : Nat} (hq : q < 8) : RB (pm_u2 I (o + 9 + q) 3 v) o (sH s q 3 v) nA nH nR := by
  refine ⟨h.1.to (u2_off (by omega)) (fun g hg => gp_sH hg), fun a ha => (h.2.1 a ha).to (u2_off (by omega)) (fun j hj => ap_sH (by omega) hj), fun a ha => ?_, fun a ha => (h.2.2.2 a ha).to (u2_off (by omega)) (fun j hj => rp_sH hq (by decide))⟩
  by_cases e : a = q
  · subst e
    refine ⟨?_, ?_, ?_, ?_⟩
    · rw [u2_r, if_neg (by omega), hp_sH (by decide) (by decide), if_neg (by omega)]; exact rbh0 h ha
    · rw [u2_r, if_neg (by omega), hp_sH (by decide) (by decide), if_neg (by omega)]; exact rbh1 h ha
    · rw [u2_r, if_neg (by omega), hp_sH (by decide) (by decide), if_neg (by omega)]; exact rbh2 h ha
    · rw [u2_r, if_pos ⟨rfl, rfl⟩, hp_sH (by decide) (by decide), if_pos ⟨rfl, rfl⟩]
  · exact (h.2.2.1 a ha).to (u2_off (by omega)) (fun j hj => by rw [hp_sH hj (by decide), if_neg (fun x => e x.1)])
theorem RB.wr0 (h : RB I o s nA nH nR) (h6 : nA ≤ 6) (h8 : nH ≤ 8) (h40 : nR ≤ 40) {q : Nat} (hq : q < 40) : RB (pm_u2 I (o + 18 + q) 0 v) o (sR s q 0 v) nA nH nR := by
  refine ⟨h.1.to (u2_off (by omega)) (fun g hg => gp_sR hg), fun a ha => (h.2.1 a ha).to (u2_off (by omega)) (fun j hj => ap_sR (by omega) hj), fun a ha => (h.2.2.1 a ha).to (u2_off (by omega)) (fun j hj => hp_sR (by omega) hj), fun a ha => ?_⟩
  by_cases e : a = q
  · subst e
    refine ⟨?_, ?_, ?_, ?_, ?_, ?_, ?_, ?_, ?_, ?_, ?_, ?_⟩
    · rw [u2_r, if_pos ⟨rfl, rfl⟩, rp_sR (by decide) (by decide), if_pos ⟨rfl, rfl⟩]
    · rw [u2_r, if_neg (by omega), rp_sR (by decide) (by decide), if_neg (by omega)]; exact rbr1 h ha
    · rw [u2_r, if_neg (by omega), rp_sR (by decide) (by decide), if_neg (by omega)]; exact rbr2 h ha
    · rw [u2_r, if_neg (by omega), rp_sR (by decide) (by decide), if_neg (by omega)]; exact rbr3 h ha
    · rw [u2_r, if_neg (by omega), rp_sR (by decide) (by decide), if_neg (by omega)]; exact rbr4 h ha
    · rw [u2_r, if_neg (by omega), rp_sR (by decide) (by decide), if_neg (by omega)]; exact rbr5 h ha
    · rw [u2_r, if_neg (by omega), rp_sR (by decide) (by decide), if_neg (by omega)]; exact rbr6 h ha
    · rw [u2_r, if_neg (by omega), rp_sR (by decide) (by decide), if_neg (by omega)]; exact rbr7 h ha
    · rw [u2_r, if_neg (by omega), rp_sR (by decide) (by decide), if_neg (by omega)]; exact rbr8 h ha
    · rw [u2_r, if_neg (by omega), rp_sR (by decide) (by decide), if_neg (by omega)]; exact rbr9 h ha
    · rw [u2_r, if_neg (by omega), rp_sR (by decide) (by decide), if_neg (by omega)]; exact rbr10 h ha
    · rw [u2_r, if_neg (by omega), rp_sR (by decide) (by decide), if_neg (by omega)]; exact rbr11 h ha
  · exact (h.2.2.2 a ha).to (u2_off (by omega)) (fun j hj => by rw [rp_sR hj (by decide), if_neg (fun x => e x.1)])
theorem RB.wr1 (h : RB I o s nA nH nR) (h6 : nA ≤ 6) (h8 : nH ≤ 8) (h40 : nR ≤ 40) {q : Nat} (hq : q < 40) : RB (pm_u2 I (o + 18 + q) 1 v) o (sR s q 1 v) nA nH nR := by
  refine ⟨h.1.to (u2_off (by omega)) (fun g hg => gp_sR hg), fun a ha => (h.2.1 a ha).to (u2_off (by omega)) (fun j hj => ap_sR (by omega) hj), fun a ha => (h.2.2.1 a ha).to (u2_off (by omega)) (fun j hj => hp_sR (by omega) hj), fun a ha => ?_⟩
  by_cases e : a = q
  · subst e
    refine ⟨?_, ?_, ?_, ?_, ?_, ?_, ?_, ?_, ?_, ?_, ?_, ?_⟩
    · rw [u2_r, if_neg (by omega), rp_sR (by decide) (by decide), if_neg (by omega)]; exact rbr0 h ha
    · rw [u2_r, if_pos ⟨rfl, rfl⟩, rp_sR (by decide) (by decide), if_pos ⟨rfl, rfl⟩]
    · rw [u2_r, if_neg (by omega), rp_sR (by decide) (by decide), if_neg (by omega)]; exact rbr2 h ha
    · rw [u2_r, if_neg (by omega), rp_sR (by decide) (by decide), if_neg (by omega)]; exact rbr3 h ha
    · rw [u2_r, if_neg (by omega), rp_sR (by decide) (by decide), if_neg (by omega)]; exact rbr4 h ha
    · rw [u2_r, if_neg (by omega), rp_sR (by decide) (by decide), if_neg (by omega)]; exact rbr5 h ha
    · rw [u2_r, if_neg (by omega), rp_sR (by decide) (by decide), if_neg (by omega)]; exact rbr6 h ha
    · rw [u2_r, if_neg (by omega), rp_sR (by decide) (by decide), if_neg (by omega)]; exact rbr7 h ha
    · rw [u2_r, if_neg (by omega), rp_sR (by decide) (by decide), if_neg (by omega)]; exact rbr8 h ha
    · rw [u2_r, if_neg (by omega), rp_sR (by decide) (by decide), if_neg (by omega)]; exact rbr9 h ha
    · rw [u2_r, if_neg (by omega), rp_sR (by decide) (by decide), if_neg (by omega)]; exact rbr10 h ha
    · rw [u2_r, if_neg (by omega), rp_sR (by decide) (by decide), if_neg (by omega)]; exact rbr11 h ha
  · exact (h.2.2.2 a ha).to (u2_off (by omega)) (fun j hj => by rw [rp_sR hj (by decide), if_neg (fun x => e x.1)])
theorem RB.wr2 (h : RB I o s nA nH nR) (h6 : nA ≤ 6) (h8 : nH ≤ 8) (h40 : nR ≤ 40) {q : Nat} (hq : q < 40) : RB (pm_u2 I (o + 18 + q) 2 v) o (sR s q 2 v) nA nH nR := by
  refine ⟨h.1.to (u2_off (by omega)) (fun g hg => gp_sR hg), fun a ha => (h.2.1 a ha).to (u2_off (by omega)) (fun j hj => ap_sR (by omega) hj), fun a ha => (h.2.2.1 a ha).to (u2_off (by omega)) (fun j hj => hp_sR (by omega) hj), fun a ha => ?_⟩
  by_cases e : a = q
  · subst e
    refine ⟨?_, ?_, ?_, ?_, ?_, ?_, ?_, ?_, ?_, ?_, ?_, ?_⟩
    · rw [u2_r, if_neg (by omega), rp_sR (by decide) (by decide), if_neg (by omega)]; exact rbr0 h ha
    · rw [u2_r, if_neg (by omega), rp_sR (by decide) (by decide), if_neg (by omega)]; exact rbr1 h ha
    · rw [u2_r, if_pos ⟨rfl, rfl⟩, rp_sR (by decide) (by decide), if_pos ⟨rfl, rfl⟩]
    · rw [u2_r, if_neg (by omega), rp_sR (by decide) (by decide), if_neg (by omega)]; exact rbr3 h ha
    · rw [u2_r, if_neg (by omega), rp_sR (by decide) (by decide), if_neg (by omega)]; exact rbr4 h ha
    · rw [u2_r, if_neg (by omega), rp_sR (by decide) (by decide), if_neg (by omega)]; exact rbr5 h ha
    · rw [u2_r, if_neg (by omega), rp_sR (by decide) (by decide), if_neg (by omega)]; exact rbr6 h ha
    · rw [u2_r, if_neg (by omega), rp_sR (by decide) (by decide), if_neg (by omega)]; exact rbr7 h ha
    · rw [u2_r, if_neg (by omega), rp_sR (by decide) (by decide), if_neg (by omega)]; exact rbr8 h ha
    · rw [u2_r, if_neg (by omega), rp_sR (by decide) (by decide), if_neg (by omega)]; exact rbr9 h ha
    · rw [u2_r, if_neg (by omega), rp_sR (by decide) (by decide), if_neg (by omega)]; exact rbr10 h ha
    · rw [u2_r, if_neg (by omega), rp_sR (by decide) (by decide), if_neg (by omega)]; exact rbr11 h ha
  · exact (h.2.2.2 a ha).to (u2_off (by omega)) (fun j hj => by rw [rp_sR hj (by decide), if_neg (fun x => e x.1)])
theorem RB.wr3 (h : RB I o s nA nH nR) (h6 : nA ≤ 6) (h8 : nH ≤ 8) (h40 : nR ≤ 40) {q : Nat} (hq : q < 40) : RB (pm_u2 I (o + 18 + q) 3 v) o (sR s q 3 v) nA nH nR := by
  refine ⟨h.1.to (u2_off (by omega)) (fun g hg => gp_sR hg), fun a ha => (h.2.1 a ha).to (u2_off (by omega)) (fun j hj => ap_sR (by omega) hj), fun a ha => (h.2.2.1 a ha).to (u2_off (by omega)) (fun j hj => hp_sR (by omega) hj), fun a ha => ?_⟩
  by_cases e : a = q
  · subst e
    refine ⟨?_, ?_, ?_, ?_, ?_, ?_, ?_, ?_, ?_, ?_, ?_, ?_⟩
    · rw [u2_r, if_neg (by omega), rp_sR (by decide) (by decide), if_neg (by omega)]; exact rbr0 h ha
    · rw [u2_r, if_neg (by omega), rp_sR (by decide) (by decide), if_neg (by omega)]; exact rbr1 h ha
    · rw [u2_r, if_neg (by omega), rp_sR (by decide) (by decide), if_neg (by omega)]; exact rbr2 h ha
    · rw [u2_r, if_pos ⟨rfl, rfl⟩, rp_sR (by decide) (by decide), if_pos ⟨rfl, rfl⟩]
    · rw [u2_r, if_neg (by omega), rp_sR (by decide) (by decide), if_neg (by omega)]; exact rbr4 h ha
    · rw [u2_r, if_neg (by omega), rp_sR (by decide) (by decide), if_neg (by omega)]; exact rbr5 h ha
    · rw [u2_r, if_neg (by omega), rp_sR (by decide) (by decide), if_neg (by omega)]; exact rbr6 h ha
    · rw [u2_r, if_neg (by omega), rp_sR (by decide) (by decide), if_neg (by omega)]; exact rbr7 h ha
    · rw [u2_r, if_neg (by omega), rp_sR (by decide) (by decide), if_neg (by omega)]; exact rbr8 h ha
    · rw [u2_r, if_neg (by omega), rp_sR (by decide) (by decide), if_neg (by omega)]; exact rbr9 h ha
    · rw [u2_r, if_neg (by omega), rp_sR (by decide) (by decide), if_neg (by omega)]; exact rbr10 h ha
    · rw [u2_r, if_neg (by omega), rp_sR (by decide) (by decide), if_neg (by omega)]; exact rbr11 h ha
  · exact (h.2.2.2 a ha).to (u2_off (by omega)) (fun j hj => by rw [rp_sR hj (by decide), if_neg (fun x => e x.1)])
theorem RB.wr4 (h : RB I o s nA nH nR) (h6 : nA ≤ 6) (h8 : nH ≤ 8) (h40 : nR ≤ 40) {q : Nat} (hq : q < 40) : RB (pm_u2 I (o + 18 + q) 4 v) o (sR s q 4 v) nA nH nR := by
  refine ⟨h.1.to (u2_off (by omega)) (fun g hg => gp_sR hg), fun a ha => (h.2.1 a ha).to (u2_off (by omega)) (fun j hj => ap_sR (by omega) hj), fun a ha => (h.2.2.1 a ha).to (u2_off (by omega)) (fun j hj => hp_sR (by omega) hj), fun a ha => ?_⟩
  by_cases e : a = q
  · subst e
    refine ⟨?_, ?_, ?_, ?_, ?_, ?_, ?_, ?_, ?_, ?_, ?_, ?_⟩
    · rw [u2_r, if_neg (by omega), rp_sR (by decide) (by decide), if_neg (by omega)]; exact rbr0 h ha
    · rw [u2_r, if_neg (by omega), rp_sR (by decide) (by decide), if_neg (by omega)]; exact rbr1 h ha
    · rw [u2_r, if_neg (by omega), rp_sR (by decide) (by decide), if_neg (by omega)]; exact rbr2 h ha
    · rw [u2_r, if_neg (by omega), rp_sR (by decide) (by decide), if_neg (by omega)]; exact rbr3 h ha
    · rw [u2_r, if_pos ⟨rfl, rfl⟩, rp_sR (by decide) (by decide), if_pos ⟨rfl, rfl⟩]
    · rw [u2_r, if_neg (by omega), rp_sR (by decide) (by decide), if_neg (by omega)]; exact rbr5 h ha
    · rw [u2_r, if_neg (by omega), rp_sR (by decide) (by decide), if_neg (by omega)]; exact rbr6 h ha
    · rw [u2_r, if_neg (by omega), rp_sR (by decide) (by decide), if_neg (by omega)]; exact rbr7 h ha
    · rw [u2_r, if_neg (by omega), rp_sR (by decide) (by decide), if_neg (by omega)]; exact rbr8 h ha
    · rw [u2_r, if_neg (by omega), rp_sR (by decide) (by decide), if_neg (by omega)]; exact rbr9 h ha
    · rw [u2_r, if_neg (by omega), rp_sR (by decide) (by decide), if_neg (by omega)]; exact rbr10 h ha
    · rw [u2_r, if_neg (by omega), rp_sR (by decide) (by decide), if_neg (by omega)]; exact rbr11 h ha
  · exact (h.2.2.2 a ha).to (u2_off (by omega)) (fun j hj => by rw [rp_sR hj (by decide), if_neg (fun x => e x.1)])
theorem RB.wr5 (h : RB I o s nA nH nR) (h6 : nA ≤ 6) (h8 : nH ≤ 8) (h40 : nR ≤ 40) {q : Nat} (hq : q < 40) : RB (pm_u2 I (o + 18 + q) 5 v) o (sR s q 5 v) nA nH nR := by
  refine ⟨h.1.to (u2_off (by omega)) (fun g hg => gp_sR hg), fun a ha => (h.2.1 a ha).to (u2_off (by omega)) (fun j hj => ap_sR (by omega) hj), fun a ha => (h.2.2.1 a ha).to (u2_off (by omega)) (fun j hj => hp_sR (by omega) hj), fun a ha => ?_⟩
  by_cases e : a = q
  · subst e
    refine ⟨?_, ?_, ?_, ?_, ?_, ?_, ?_, ?_, ?_, ?_, ?_, ?_⟩
    · rw [u2_r, if_neg (by omega), rp_sR (by decide) (by decide), if_neg (by omega)]; exact rbr0 h ha
    · rw [u2_r, if_neg (by omega), rp_sR (by decide) (by decide), if_neg (by omega)]; exact rbr1 h ha
    · rw [u2_r, if_neg (by omega), rp_sR (by decide) (by decide), if_neg (by omega)]; exact rbr2 h ha
    · rw [u2_r, if_neg (by omega), rp_sR (by decide) (by decide), if_neg (by omega)]; exact rbr3 h ha
    · rw [u2_r, if_neg (by omega), rp_sR (by decide) (by decide), if_neg (by omega)]; exact rbr4 h ha
    · rw [u2_r, if_pos ⟨rfl, rfl⟩, rp_sR (by decide) (by decide), if_pos ⟨rfl, rfl⟩]
    · rw [u2_r, if_neg (by omega), rp_sR (by decide) (by decide), if_neg (by omega)]; exact rbr6 h ha
    · rw [u2_r, if_neg (by omega), rp_sR (by decide) (by decide), if_neg (by omega)]; exact rbr7 h ha
    · rw [u2_r, if_neg (by omega), rp_sR (by decide) (by decide), if_neg (by omega)]; exact rbr8 h ha
    · rw [u2_r, if_neg (by omega), rp_sR (by decide) (by decide), if_neg (by omega)]; exact rbr9 h ha
    · rw [u2_r, if_neg (by omega), rp_sR (by decide) (by decide), if_neg (by omega)]; exact rbr10 h ha
    · rw [u2_r, if_neg (by omega), rp_sR (by decide) (by decide), if_neg (by omega)]; exact rbr11 h ha
  · exact (h.2.2.2 a ha).to (u2_off (by omega)) (fun j hj => by rw [rp_sR hj (by decide), if_neg (fun x => e x.1)])
theorem RB.wr6 (h : RB I o s nA nH nR) (h6 : nA ≤ 6) (h8 : nH ≤ 8) (h40 : nR ≤ 40) {q : Nat} (hq : q < 40) : RB (pm_u2 I (o + 18 + q) 6 v) o (sR s q 6 v) nA nH nR := by
  refine ⟨h.1.to (u2_off (by omega)) (fun g hg => gp_sR hg), fun a ha => (h.2.1 a ha).to (u2_off (by omega)) (fun j hj => ap_sR (by omega) hj), fun a ha => (h.2.2.1 a ha).to (u2_off (by omega)) (fun j hj => hp_sR (by omega) hj), fun a ha => ?_⟩
  by_cases e : a = q
  · subst e
    refine ⟨?_, ?_, ?_, ?_, ?_, ?_, ?_, ?_, ?_, ?_, ?_, ?_⟩
    · rw [u2_r, if_neg (by omega), rp_sR (by decide) (by decide), if_neg (by omega)]; exact rbr0 h ha
    · rw [u2_r, if_neg (by omega), rp_sR (by decide) (by decide), if_neg (by omega)]; exact rbr1 h ha
    · rw [u2_r, if_neg (by omega), rp_sR (by decide) (by decide), if_neg (by omega)]; exact rbr2 h ha
    · rw [u2_r, if_neg (by omega), rp_sR (by decide) (by decide), if_neg (by omega)]; exact rbr3 h ha
    · rw [u2_r, if_neg (by omega), rp_sR (by decide) (by decide), if_neg (by omega)]; exact rbr4 h ha
    · rw [u2_r, if_neg (by omega), rp_sR (by decide) (by decide), if_neg (by omega)]; exact rbr5 h ha
    · rw [u2_r, if_pos ⟨rfl, rfl⟩, rp_sR (by decide) (by decide), if_pos ⟨rfl, rfl⟩]
    · rw [u2_r, if_neg (by omega), rp_sR (by decide) (by decide), if_neg (by omega)]; exact rbr7 h ha
    · rw [u2_r, if_neg (by omega), rp_sR (by decide) (by decide), if_neg (by omega)]; exact rbr8 h ha
    · rw [u2_r, if_neg (by omega), rp_sR (by decide) (by decide), if_neg (by omega)]; exact rbr9 h ha
    · rw [u2_r, if_neg (by omega), rp_sR (by decide) (by decide), if_neg (by omega)]; exact rbr10 h ha
    · rw [u2_r, if_neg (by omega), rp_sR (by decide) (by decide), if_neg (by omega)]; exact rbr11 h ha
  · exact (h.2.2.2 a ha).to (u2_off (by omega)) (fun j hj => by rw [rp_sR hj (by decide), if_neg (fun x => e x.1)])
theorem RB.wr7 (h : RB I o s nA nH nR) (h6 : nA ≤ 6) (h8 : nH ≤ 8) (h40 : nR ≤ 40) {q : Nat} (hq : q < 40) : RB (pm_u2 I (o + 18 + q) 7 v) o (sR s q 7 v) nA nH nR := by
  refine ⟨h.1.to (u2_off (by omega)) (fun g hg => gp_sR hg), fun a ha => (h.2.1 a ha).to (u2_off (by omega)) (fun j hj => ap_sR (by omega) hj), fun a ha => (h.2.2.1 a ha).to (u2_off (by omega)) (fun j hj => hp_sR (by omega) hj), fun a ha => ?_⟩
  by_cases e : a = q
  · subst e
    refine ⟨?_, ?_, ?_, ?_, ?_, ?_, ?_, ?_, ?_, ?_, ?_, ?_⟩
    · rw [u2_r, if_neg (by omega), rp_sR (by decide) (by decide), if_neg (by omega)]; exact rbr0 h ha
    · rw [u2_r, if_neg (by omega), rp_sR (by decide) (by decide), if_neg (by omega)]; exact rbr1 h ha
    · rw [u2_r, if_neg (by omega), rp_sR (by decide) (by decide), if_neg (by omega)]; exact rbr2 h ha
    · rw [u2_r, if_neg (by omega), rp_sR (by decide) (by decide), if_neg (by omega)]; exact rbr3 h ha
    · rw [u2_r, if_neg (by omega), rp_sR (by decide) (by decide), if_neg (by omega)]; exact rbr4 h ha
    · rw [u2_r, if_neg (by omega), rp_sR (by decide) (by decide), if_neg (by omega)]; exact rbr5 h ha
    · rw [u2_r, if_neg (by omega), rp_sR (by decide) (by decide), if_neg (by omega)]; exact rbr6 h ha
    · rw [u2_r, if_pos ⟨rfl, rfl⟩, rp_sR (by decide) (by decide), if_pos ⟨rfl, rfl⟩]
    · rw [u2_r, if_neg (by omega), rp_sR (by decide) (by decide), if_neg (by omega)]; exact rbr8 h ha
    · rw [u2_r, if_neg (by omega), rp_sR (by decide) (by decide), if_neg (by omega)]; exact rbr9 h ha
    · rw [u2_r, if_neg (by omega), rp_sR (by decide) (by decide), if_neg (by omega)]; exact rbr10 h ha
    · rw [u2_r, if_neg (by omega), rp_sR (by decide) (by decide), if_neg (by omega)]; exact rbr11 h ha
  · exact (h.2.2.2 a ha).to (u2_off (by omega)) (fun j hj => by rw [rp_sR hj (by decide), if_neg (fun x => e x.1)])
theorem RB.wr8 (h : RB I o s nA nH nR) (h6 : nA ≤ 6) (h8 : nH ≤ 8) (h40 : nR ≤ 40) {q : Nat} (hq : q < 40) : RB (pm_u2 I (o + 18 + q) 8 v) o (sR s q 8 v) nA nH nR := by
  refine ⟨h.1.to (u2_off (by omega)) (fun g hg => gp_sR hg), fun a ha => (h.2.1 a ha).to (u2_off (by omega)) (fun j hj => ap_sR (by omega) hj), fun a ha => (h.2.2.1 a ha).to (u2_off (by omega)) (fun j hj => hp_sR (by omega) hj), fun a ha => ?_⟩
  by_cases e : a = q
  · subst e
    refine ⟨?_, ?_, ?_, ?_, ?_, ?_, ?_, ?_, ?_, ?_, ?_, ?_⟩
    · rw [u2_r, if_neg (by omega), rp_sR (by decide) (by decide), if_neg (by omega)]; exact rbr0 h ha
    · rw [u2_r, if_neg (by omega), rp_sR (by decide) (by decide), if_neg (by omega)]; exact rbr1 h ha
    · rw [u2_r, if_neg (by omega), rp_sR (by decide) (by decide), if_neg (by omega)]; exact rbr2 h ha
    · rw [u2_r, if_neg (by omega), rp_sR (by decide) (by decide), if_neg (by omega)]; exact rbr3 h ha
    · rw [u2_r, if_neg (by omega), rp_sR (by decide) (by decide), if_neg (by omega)]; exact rbr4 h ha
    · rw [u2_r, if_neg (by omega), rp_sR (by decide) (by decide), if_neg (by omega)]; exact rbr5 h ha
    · rw [u2_r, if_neg (by omega), rp_sR (by decide) (by decide), if_neg (by omega)]; exact rbr6 h ha
    · rw [u2_r, if_neg (by omega), rp_sR (by decide) (by decide), if_neg (by omega)]; exact rbr7 h ha
    · rw [u2_r, if_pos ⟨rfl, rfl⟩, rp_sR (by decide) (by decide), if_pos ⟨rfl, rfl⟩]
    · rw [u2_r, if_neg (by omega), rp_sR (by decide) (by decide), if_neg (by omega)]; exact rbr9 h ha
    · rw [u2_r, if_neg (by omega), rp_sR (by decide) (by decide), if_neg (by omega)]; exact rbr10 h ha
    · rw [u2_r, if_neg (by omega), rp_sR (by decide) (by decide), if_neg (by omega)]; exact rbr11 h ha
  · exact (h.2.2.2 a ha).to (u2_off (by omega)) (fun j hj => by rw [rp_sR hj (by decide), if_neg (fun x => e x.1)])
theorem RB.wr9 (h : RB I o s nA nH nR) (h6 : nA ≤ 6) (h8 : nH ≤ 8) (h40 : nR ≤ 40) {q : Nat} (hq : q < 40) : RB (pm_u2 I (o + 18 + q) 9 v) o (sR s q 10 v) nA nH nR := by
  refine ⟨h.1.to (u2_off (by omega)) (fun g hg => gp_sR hg), fun a ha => (h.2.1 a ha).to (u2_off (by omega)) (fun j hj => ap_sR (by omega) hj), fun a ha => (h.2.2.1 a ha).to (u2_off (by omega)) (fun j hj => hp_sR (by omega) hj), fun a ha => ?_⟩
  by_cases e : a = q
  · subst e
    refine ⟨?_, ?_, ?_, ?_, ?_, ?_, ?_, ?_, ?_, ?_, ?_, ?_⟩
    · rw [u2_r, if_neg (by omega), rp_sR (by decide) (by decide), if_neg (by omega)]; exact rbr0 h ha
    · rw [u2_r, if_neg (by omega), rp_sR (by decide) (by decide), if_neg (by omega)]; exact rbr1 h ha
    · rw [u2_r, if_neg (by omega), rp_sR (by decide) (by decide), if_neg (by omega)]; exact rbr2 h ha
    · rw [u2_r, if_neg (by omega), rp_sR (by decide) (by decide), if_neg (by omega)]; exact rbr3 h ha
    · rw [u2_r, if_neg (by omega), rp_sR (by decide) (by decide), if_neg (by omega)]; exact rbr4 h ha
    · rw [u2_r, if_neg (by omega), rp_sR (by decide) (by decide), if_neg (by omega)]; exact rbr5 h ha
    · rw [u2_r, if_neg (by omega), rp_sR (by decide) (by decide), if_neg (by omega)]; exact rbr6 h ha
    · rw [u2_r, if_neg (by omega), rp_sR (by decide) (by decide), if_neg (by omega)]; exact rbr7 h ha
    · rw [u2_r, if_neg (by omega), rp_sR (by decide) (by decide), if_neg (by omega)]; exact rbr8 h ha
    · rw [u2_r, if_pos ⟨rfl, rfl⟩, rp_sR (by decide) (by decide), if_pos ⟨rfl, rfl⟩]
    · rw [u2_r, if_neg (by omega), rp_sR (by decide) (by decide), if_neg (by omega)]; exact rbr10 h ha
    · rw [u2_r, if_neg (by omega), rp_sR (by decide) (by decide), if_neg (by omega)]; exact rbr11 h ha
  · exact (h.2.2.2 a ha).to (u2_off (by omega)) (fun j hj => by rw [rp_sR hj (by decide), if_neg (fun x => e x.1)])
theorem RB.wr10 (h : RB I o s nA nH nR) (h6 : nA ≤ 6) (h8 : nH ≤ 8) (h40 : nR ≤ 40) {q : Nat} (hq : q < 40) : RB (pm_u2 I (o + 18 + q) 10 v) o (sR s q 11 v) nA nH nR := by
  refine ⟨h.1.to (u2_off (by omega)) (fun g hg => gp_sR hg), fun a ha => (h.2.1 a ha).to (u2_off (by omega)) (fun j hj => ap_sR (by omega) hj), fun a ha => (h.2.2.1 a ha).to (u2_off (by omega)) (fun j hj => hp_sR (by omega) hj), fun a ha => ?_⟩
  by_cases e : a = q
  · subst e
    refine ⟨?_, ?_, ?_, ?_, ?_, ?_, ?_, ?_, ?_, ?_, ?_, ?_⟩
    · rw [u2_r, if_neg (by omega), rp_sR (by decide) (by decide), if_neg (by omega)]; exact rbr0 h ha
    · rw [u2_r, if_neg (by omega), rp_sR (by decide) (by decide), if_neg (by omega)]; exact rbr1 h ha
    · rw [u2_r, if_neg (by omega), rp_sR (by decide) (by decide), if_neg (by omega)]; exact rbr2 h ha
    · rw [u2_r, if_neg (by omega), rp_sR (by decide) (by decide), if_neg (by omega)]; exact rbr3 h ha
    · rw [u2_r, if_neg (by omega), rp_sR (by decide) (by decide), if_neg (by omega)]; exact rbr4 h ha
    · rw [u2_r, if_neg (by omega), rp_sR (by decide) (by decide), if_neg (by omega)]; exact rbr5 h ha
    · rw [u2_r, if_neg (by omega), rp_sR (by decide) (by decide), if_neg (by omega)]; exact rbr6 h ha
    · rw [u2_r, if_neg (by omega), rp_sR (by decide) (by decide), if_neg (by omega)]; exact rbr7 h ha
    · rw [u2_r, if_neg (by omega), rp_sR (by decide) (by decide), if_neg (by omega)]; exact rbr8 h ha
    · rw [u2_r, if_neg (by omega), rp_sR (by decide) (by decide), if_neg (by omega)]; exact rbr9 h ha
    · rw [u2_r, if_pos ⟨rfl, rfl⟩, rp_sR (by decide) (by decide), if_pos ⟨rfl, rfl⟩]
    · rw [u2_r, if_neg (by omega), rp_sR (by decide) (by decide), if_neg (by omega)]; exact rbr11 h ha
  · exact (h.2.2.2 a ha).to (u2_off (by omega)) (fun j hj => by rw [rp_sR hj (by decide), if_neg (fun x => e x.1)])
theorem RB.wr11 (h : RB I o s nA nH nR) (h6 : nA ≤ 6) (h8 : nH ≤ 8) (h40 : nR ≤ 40) {q : Nat} (hq : q < 40) : RB (pm_u2 I (o + 18 + q) 11 v) o (sR s q 9 v) nA nH nR := by
  refine ⟨h.1.to (u2_off (by omega)) (fun g hg => gp_sR hg), fun a ha => (h.2.1 a ha).to (u2_off (by omega)) (fun j hj => ap_sR (by omega) hj), fun a ha => (h.2.2.1 a ha).to (u2_off (by omega)) (fun j hj => hp_sR (by omega) hj), fun a ha => ?_⟩
  by_cases e : a = q
  · subst e
    refine ⟨?_, ?_, ?_, ?_, ?_, ?_, ?_, ?_, ?_, ?_, ?_, ?_⟩
    · rw [u2_r, if_neg (by omega), rp_sR (by decide) (by decide), if_neg (by omega)]; exact rbr0 h ha
    · rw [u2_r, if_neg (by omega), rp_sR (by decide) (by decide), if_neg (by omega)]; exact rbr1 h ha
    · rw [u2_r, if_neg (by omega), rp_sR (by decide) (by decide), if_neg (by omega)]; exact rbr2 h ha
    · rw [u2_r, if_neg (by omega), rp_sR (by decide) (by decide), if_neg (by omega)]; exact rbr3 h ha
    · rw [u2_r, if_neg (by omega), rp_sR (by decide) (by decide), if_neg (by omega)]; exact rbr4 h ha
    · rw [u2_r, if_neg (by omega), rp_sR (by decide) (by decide), if_neg (by omega)]; exact rbr5 h ha
    · rw [u2_r, if_neg (by omega), rp_sR (by decide) (by decide), if_neg (by omega)]; exact rbr6 h ha
    · rw [u2_r, if_neg (by omega), rp_sR (by decide) (by decide), if_neg (by omega)]; exact rbr7 h ha
    · rw [u2_r, if_neg (by omega), rp_sR (by decide) (by decide), if_neg (by omega)]; exact rbr8 h ha
    · rw [u2_r, if_neg (by omega), rp_sR (by decide) (by decide), if_neg (by omega)]; exact rbr9 h ha
    · rw [u2_r, if_neg (by omega), rp_sR (by decide) (by decide), if_neg (by omega)]; exact rbr10 h ha
    · rw [u2_r, if_pos ⟨rfl, rfl⟩, rp_sR (by decide) (by decide), if_pos ⟨rfl, rfl⟩]
  · exact (h.2.2.2 a ha).to (u2_off (by omega)) (fun j hj => by rw [rp_sR hj (by decide), if_neg (fun x => e x.1)])
theorem neOA {a : Nat} (ha : a < 6) : (o = o + 2 + a) = False := eq_false (by omega)
theorem neOH {h : Nat} (hh : h < 8) : (o = o + 9 + h) = False := eq_false (by omega)
theorem neOR {r : Nat} : (o = o + 18 + r) = False := eq_false (by omega)
theorem neAO {a : Nat} (ha : a < 6) : (o + 2 + a = o) = False := eq_false (by omega)
theorem neAH {a h : Nat} (ha : a < 6) (hh : h < 8) : (o + 2 + a = o + 9 + h) = False := eq_false (by omega)
theorem neAR {a r : Nat} (ha : a < 6) : (o + 2 + a = o + 18 + r) = False := eq_false (by omega)
theorem neHO {h : Nat} (hh : h < 8) : (o + 9 + h = o) = False := eq_false (by omega)
theorem neHA {h a : Nat} (hh : h < 8) (ha : a < 6) : (o + 9 + h = o + 2 + a) = False := eq_false (by omega)
theorem neHR {h r : Nat} (hh : h < 8) : (o + 9 + h = o + 18 + r) = False := eq_false (by omega)
theorem neRO {r : Nat} : (o + 18 + r = o) = False := eq_false (by omega)
theorem neRA {r a : Nat} (ha : a < 6) : (o + 18 + r = o + 2 + a) = False := eq_false (by omega)
theorem neRH {r h : Nat} (hh : h < 8) : (o + 18 + r = o + 9 + h) = False := eq_false (by omega)
theorem eqAA {a b : Nat} : (o + 2 + a = o + 2 + b) = (a = b) := propext ⟨fun h => by omega, fun h => by omega⟩
theorem eqHH {a b : Nat} : (o + 9 + a = o + 9 + b) = (a = b) := propext ⟨fun h => by omega, fun h => by omega⟩
theorem eqRR {a b : Nat} : (o + 18 + a = o + 18 + b) = (a = b) := propext ⟨fun h => by omega, fun h => by omega⟩
end RBS
