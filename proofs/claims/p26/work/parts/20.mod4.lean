/-! the model: quarters, retests -/
section MOD4
variable {xl : Nat} {xs : Nat → Int32} {F : pm_F} {I : Nat → Nat → Int32} {o : Nat} {s : St} {nA nH nR : Nat}
theorem lp_fstP {σ β : Type} (P : Nat → σ → Prop) (f : Nat → σ → σ) (y : Nat → σ → β) (n : Nat) (a : σ) (b : β) : (lp (fun r (x : σ × β) => (f r x.1, y r x.1)) 0 n (a, b)).1 = lp f 0 n a := lp_fst f y n a b
theorem Ty.unf {r : Nat} {i : Nat} (hi : i < nR) {x : St × Int32} (h : Ty x.1 nA nH nR) : Ty (unfG r i x).1 nA nH nR := by
  have h40 := h.2.2.1.2
  unfold unfG
  split
  · exact (h.sR (by omega) (by decide) (by decide) (by decide)).sR (by omega) (by decide) (by decide) (by decide)
  · exact h
theorem Ty.al {i : Nat} (hi : i < nA) {x : St} (h : Ty x nA nH nR) : Ty (alG i x) nA nH nR := by
  have := h.1.2
  exact (h.sG (by decide) (by decide) (by decide) (by decide)).sA (by omega) (by decide)
theorem Ty.pay (h : Ty s nA nH nR) {r : Nat} (hrR : r < nR) : Ty (paysS s nR r).1 nA nH nR := by
  have h40 := h.2.2.1.2
  have hr : r < 40 := by omega
  obtain ⟨a, haA, hra, ht⟩ := vin (h.2.2.2 r hrR).2 (by have := h.1.2; omega)
  have ha : a < 6 := by have := h.1.2; omega
  unfold paysS
  split
  · exact h.sR hr (by decide) (by decide) (by decide)
  · refine Ty.payB ?_ hrR
    rw [ht]
    exact (((((h.sA ha (by decide)).sG (by decide) (by decide) (by decide) (by decide)).sG (by decide) (by decide) (by decide) (by decide)).sR hr (by decide) (by decide) (by decide)).sR hr (by decide) (by decide) (by decide))
theorem Ty.beg {i : Nat} (hi : i < nR) {x : St × Int32} (h : Ty x.1 nA nH nR) : Ty (begG nR i x).1 nA nH nR := by
  unfold begG
  split
  · exact h.pay hi
  · exact h
theorem Ty.als (h : Ty s nA nH nR) : Ty (lp alG 0 nA s) nA nH nR := lp_inv (fun _ x => Ty x nA nH nR) alG nA (fun i x hi h => Ty.al hi h) nA 0 s (by omega) h
theorem Ty.begs (h : Ty s nA nH nR) : Ty (begS s nA nR).1 nA nH nR := lp_inv (fun _ (x : St × Int32) => Ty x.1 nA nH nR) (begG nR) nR (fun i x hi h => Ty.beg hi h) nR 0 (lp alG 0 nA s, 0) (by omega) h.als
def onS (v : Int32) : Int32 := sum (fun k => (v >>> (nI k &&& 31)) &&& 1) 8
abbrev bitS (v : Int32) (k : Nat) : Prop := (v >>> (nI k &&& 31)) &&& 1 = 1
def hasR (s : St) (nR h r : Nat) : Prop := rp s r 0 = nI h ∨ ∃ q, q < nR ∧ under s r q ∧ rp s q 0 = nI h
def bonG (v b : Int32) (h : Nat) (s : St) : St := if bitS v h then sH (giveS s h b) h 3 (hp (giveS s h b) h 3 + 1) else s
def bonS (s : St) (nH : Nat) (v : Int32) : St := if gp s 1 < onS v * gp s 3 then s else lp (bonG v (gp s 3)) 0 nH (sG (sG s 1 (gp s 1 - onS v * gp s 3)) 8 (gp s 8 + onS v * gp s 3))
def agaA (s : St) (r : Nat) : St := sR (sR (sR (sR (sR (sR s r 3 0) r 4 0) r 6 0) r 7 0) r 10 0) r 11 0
end MOD4

