/-! the model's methods: loops that look -/
section MOD2
variable {xl : Nat} {xs : Nat → Int32} {F : pm_F} {I : Nat → Nat → Int32} {o : Nat} {s : St} {nA nH nR : Nat}
theorem lp_fst {σ β : Type} (f : Nat → σ → σ) (y : Nat → σ → β) (n : Nat) (a : σ) (b : β) : (lp (fun r (x : σ × β) => (f r x.1, y r x.1)) 0 n (a, b)).1 = lp f 0 n a :=
  lp_rel (fun (x : σ × β) z => x.1 = z) _ f n (fun i x z _ h => by subst h; rfl) n 0 (a, b) a (by omega) rfl
end MOD2

