/-! memories whose shape stands: numbers alone change -/
abbrev pm_F : Type := Nat × Nat × (Nat → Nat × Nat) × (Nat → Nat → Option Nat)
def pm_G (F : pm_F) (I : Nat → Nat → Int32) : pm_H := (F.1, F.2.1, F.2.2.1, F.2.2.2, I)
def fk (F : pm_F) (o : Nat) : Nat × Nat := F.2.2.1 o
def fr (F : pm_F) (o j : Nat) : Option Nat := F.2.2.2 o j
section CORE
variable {F : pm_F} {I : Nat → Nat → Int32}
theorem gk {o : Nat} : pm_k (pm_G F I) o = fk F o := rfl
theorem gr {o j : Nat} : pm_rs (pm_G F I) o j = fr F o j := rfl
theorem gi {o j : Nat} : pm_is (pm_G F I) o j = I o j := rfl
theorem gs {o j : Nat} {v : Int32} : pm_setI (pm_G F I) o j v = pm_G F (pm_u2 I o j v) := rfl
theorem rv_some {o : Nat} : pm_rv (some o) = .ref o := rfl
theorem u2_row {k j : Nat} {v : Int32} : pm_u2 I k j v k = upd (I k) j v := by
  funext b
  unfold pm_u2 upd
  by_cases h : b = j <;> simp [h]
theorem u2_off {k j a : Nat} {v : Int32} (h : a ≠ k) : pm_u2 I k j v a = I a := by
  funext b
  unfold pm_u2
  rw [if_neg (fun q => h q.1)]
/-- an index is in range -/
theorem ix_n {i n : Nat} (h : i < n) (hn : n < 2147483648) : vp_in (nI i) n := vp_in_nI h (by omega)
theorem ix_v {x : Int32} {n m : Nat} (h : vp_in x n) (hn : n ≤ m) : vp_in x m := fun q => h (q.elim Or.inl (fun q => Or.inr (by omega)))
theorem cl_n {i : Nat} (h : i < 2147483648) : (nI i).toNatClampNeg = i := nI_clamp (by omega)
theorem lt_t {i n : Nat} (h : i < n) (hn : n < 2147483648) : (nI i < nI n) = True := eq_true (nI_lt h (by omega))
theorem lt_f {i n : Nat} (h : n ≤ i) (hn : i < 2147483648) : (nI i < nI n) = False := eq_false (nI_nlt h (by omega))
theorem lt_iff {i n : Nat} (h : i < 2147483648) (hn : n < 2147483648) : (nI i < nI n) = (i < n) := propext (nI_ltI (by omega) (by omega))
theorem eq_iff {i n : Nat} (h : i < 2147483648) (hn : n < 2147483648) : (nI i = nI n) = (i = n) := propext (nI_eq (by omega) (by omega))
theorem ret_i {v : Int32} : (some (Value.int v)).toList = [Value.int v] := rfl
theorem ret_n : (none : Option Value).toList = [] := rfl
/-- for (i = a; i < a + k; i++) -/
def lp {σ : Type} (g : Nat → σ → σ) : Nat → Nat → σ → σ
  | _, 0, x => x
  | i, k + 1, x => lp g (i + 1) k (g i x)
theorem lp_ev {σ ρ : Type} (n : Nat) (f : Nat → σ → ρ) (P : Nat → σ → Prop) (g : Nat → σ → σ) (h : ∀ i x, i < n → P i x → f i x = f (i + 1) (g i x) ∧ P (i + 1) (g i x)) : ∀ k i x, i + k = n → P i x → f i x = f n (lp g i k x) ∧ P n (lp g i k x) := by
  intro k
  induction k with
  | zero =>
    intro i x hk hP
    obtain rfl : i = n := by omega
    exact ⟨rfl, hP⟩
  | succ k ih =>
    intro i x hk hP
    obtain ⟨h1, h2⟩ := h i x (by omega) hP
    obtain ⟨h3, h4⟩ := ih (i + 1) (g i x) (by omega) h2
    exact ⟨h1.trans h3, h4⟩
theorem lp_ev0 {σ ρ : Type} (n : Nat) (f : Nat → σ → ρ) (g : Nat → σ → σ) (h : ∀ i x, i < n → f i x = f (i + 1) (g i x)) (x : σ) : f 0 x = f n (lp g 0 n x) :=
  (lp_ev n f (fun _ _ => True) g (fun i x hi _ => ⟨h i x hi, trivial⟩) n 0 x (by omega) trivial).1
theorem lp_rel {σ ρ : Type} (R : σ → ρ → Prop) (g : Nat → σ → σ) (h : Nat → ρ → ρ) (n : Nat) (hs : ∀ i x y, i < n → R x y → R (g i x) (h i y)) : ∀ k i x y, i + k = n → R x y → R (lp g i k x) (lp h i k y) := by
  intro k
  induction k with
  | zero => intro i x y _ hR; exact hR
  | succ k ih => intro i x y hk hR; exact ih (i + 1) _ _ (by omega) (hs i x y (by omega) hR)
theorem lp_inv {σ : Type} (P : Nat → σ → Prop) (g : Nat → σ → σ) (n : Nat) (hs : ∀ i x, i < n → P i x → P (i + 1) (g i x)) : ∀ k i x, i + k = n → P i x → P n (lp g i k x) := by
  intro k
  induction k with
  | zero =>
    intro i x hk hP
    obtain rfl : i = n := by omega
    exact hP
  | succ k ih => intro i x hk hP; exact ih (i + 1) _ (by omega) (hs i x (by omega) hP)
theorem lp_congr {σ : Type} (g h : Nat → σ → σ) (n : Nat) (hs : ∀ i x, i < n → g i x = h i x) : ∀ k i x, i + k = n → lp g i k x = lp h i k x := by
  intro k
  induction k with
  | zero => intro i x _; rfl
  | succ k ih => intro i x hk; show lp g (i + 1) k (g i x) = lp h (i + 1) k (h i x); rw [hs i x (by omega)]; exact ih (i + 1) _ (by omega)
/-- for (i = a; i < a + k; i++) if (P i) return i; return -10009 -/
def ff (P : Nat → Bool) : Nat → Nat → Int32
  | _, 0 => -10009
  | i, k + 1 => if P i = true then nI i else ff P (i + 1) k
end CORE
/-- a book's cells, from o on -/
def LB (F : pm_F) (o : Nat) : Prop :=
  fk F o = (4, 12) ∧ fr F o 0 = some (o + 1) ∧ fr F o 1 = some (o + 8) ∧ fr F o 2 = some (o + 17) ∧ fk F (o + 1) = (3, 6) ∧ fk F (o + 8) = (7, 8) ∧ fk F (o + 17) = (9, 40) ∧
  (∀ a, a < 6 → fr F (o + 1) a = some (o + 2 + a) ∧ fk F (o + 2 + a) = (2, 3)) ∧ (∀ h, h < 8 → fr F (o + 8) h = some (o + 9 + h) ∧ fk F (o + 9 + h) = (6, 4)) ∧ (∀ r, r < 40 → fr F (o + 17) r = some (o + 18 + r) ∧ fk F (o + 18 + r) = (8, 12))
section CORE2
variable {F : pm_F} {o : Nat}
theorem lb0 (h : LB F o) : fk F o = (4, 12) := h.1
theorem lb1 (h : LB F o) : fr F o 0 = some (o + 1) := h.2.1
theorem lb2 (h : LB F o) : fr F o 1 = some (o + 8) := h.2.2.1
theorem lb3 (h : LB F o) : fr F o 2 = some (o + 17) := h.2.2.2.1
theorem lb4 (h : LB F o) : fk F (o + 1) = (3, 6) := h.2.2.2.2.1
theorem lb5 (h : LB F o) : fk F (o + 8) = (7, 8) := h.2.2.2.2.2.1
theorem lb6 (h : LB F o) : fk F (o + 17) = (9, 40) := h.2.2.2.2.2.2.1
theorem lba (h : LB F o) {a : Nat} (ha : a < 6) : fr F (o + 1) a = some (o + 2 + a) := (h.2.2.2.2.2.2.2.1 a ha).1
theorem lba2 (h : LB F o) {a : Nat} (ha : a < 6) : fk F (o + 2 + a) = (2, 3) := (h.2.2.2.2.2.2.2.1 a ha).2
theorem lbh (h : LB F o) {a : Nat} (ha : a < 8) : fr F (o + 8) a = some (o + 9 + a) := (h.2.2.2.2.2.2.2.2.1 a ha).1
theorem lbh2 (h : LB F o) {a : Nat} (ha : a < 8) : fk F (o + 9 + a) = (6, 4) := (h.2.2.2.2.2.2.2.2.1 a ha).2
theorem lbr (h : LB F o) {a : Nat} (ha : a < 40) : fr F (o + 17) a = some (o + 18 + a) := (h.2.2.2.2.2.2.2.2.2 a ha).1
theorem lbr2 (h : LB F o) {a : Nat} (ha : a < 40) : fk F (o + 18 + a) = (8, 12) := (h.2.2.2.2.2.2.2.2.2 a ha).2
end CORE2

