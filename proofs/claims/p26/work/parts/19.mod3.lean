/-! the model's methods: those that write -/
section MOD3
variable {xl : Nat} {xs : Nat → Int32} {F : pm_F} {I : Nat → Nat → Int32} {o : Nat} {s : St} {nA nH nR : Nat}
theorem sha_stop {r : Nat} {p : Int32} {x : St × Int32 × Int32} (h : ¬ x.2.2 < 3) : ∀ k i, lp (shaG r p) i k x = x := by
  intro k
  induction k with
  | zero => intro i; rfl
  | succ k ih =>
    intro i
    show lp (shaG r p) (i + 1) k (shaG r p i x) = x
    rw [show shaG r p i x = x from if_neg (fun q => h q.1)]
    exact ih (i + 1)
theorem Ty.give (h : Ty s nA nH nR) {a : Nat} (ha : a < 8) {v : Int32} : Ty (giveS s a v) nA nH nR := h.sH ha (by omega)
theorem Ty.sha {r : Nat} {p : Int32} {i : Nat} (hi : i < nR) {x : St × Int32 × Int32} (h : Ty x.1 nA nH nR) : Ty (shaG r p i x).1 nA nH nR := by
  unfold shaG
  split
  · obtain ⟨a, ha, -, ht⟩ := vin (h.2.2.2 i hi).1 (by have := h.2.1.2; omega)
    dsimp only
    rw [ht]
    exact h.give (by have := h.2.1.2; omega)
  · exact h
theorem Ty.shas {r : Nat} {p : Int32} : ∀ (k i : Nat) (x : St × Int32 × Int32), i + k = nR → Ty x.1 nA nH nR → Ty (lp (shaG r p) i k x).1 nA nH nR :=
  fun k i x hk h => lp_inv (fun _ (x : St × Int32 × Int32) => Ty x.1 nA nH nR) (shaG r p) nR (fun i x hi h => Ty.sha hi h) k i x hk h
theorem Ty.payB (h : Ty s nA nH nR) {r : Nat} {p : Int32} (hr : r < nR) : Ty (payB s nR r p) nA nH nR := by
  have h1 := Ty.shas (r := r) (p := p) nR 0 (s, p, 0) (by omega) h
  obtain ⟨a, ha, -, ht⟩ := vin (h1.2.2.2 r hr).1 (by have := h.2.1.2; omega)
  show Ty (giveS _ (tn _) _) nA nH nR
  rw [ht]
  exact h1.give (by have := h.2.1.2; omega)
end MOD3

