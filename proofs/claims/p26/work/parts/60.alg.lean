/-! sums of 32 bits -/
section ALG
variable {f g : Nat → Int32} {n m a : Nat} {c d : Int32}
theorem sum_s (f : Nat → Int32) (n : Nat) : sum f (n + 1) = sum f n + f n := by
  have := lp_last (fun i x => x + f i) n 0 (0 : Int32)
  rw [Nat.zero_add] at this
  exact this
theorem sum_c : ∀ n, (∀ i, i < n → f i = g i) → sum f n = sum g n
  | 0, _ => rfl
  | n + 1, h => by rw [sum_s, sum_s, sum_c n (fun i hi => h i (by omega)), h n (by omega)]
theorem sum_u : ∀ n, a < n → (∀ i, i < n → i ≠ a → f i = g i) → f a = g a + d → sum f n = sum g n + d
  | 0, h, _, _ => absurd h (by omega)
  | n + 1, h, h1, h2 => by
    rw [sum_s, sum_s]
    by_cases e : n = a
    · subst e
      rw [sum_c n (fun i hi => h1 i (by omega) (by omega)), h2, Int32.add_assoc]
    · rw [sum_u n (by omega) (fun i hi => h1 i (by omega)) h2, h1 n (by omega) e]
      grind
theorem sum_0 : ∀ n, (∀ i, i < n → f i = 0) → sum f n = 0
  | 0, _ => rfl
  | n + 1, h => by rw [sum_s, sum_0 n (fun i hi => h i (by omega)), h n (by omega)]; rfl
theorem sum_1 (ha : a < n) (h : ∀ i, i < n → i ≠ a → f i = 0) : sum f n = f a := by
  have := sum_u (f := f) (g := fun _ => 0) (a := a) (d := f a) n ha (fun i hi hn => h i hi hn) (by rw [Int32.zero_add])
  rw [this, sum_0 n (fun _ _ => rfl), Int32.zero_add]
theorem sum_a : ∀ n, sum (fun i => f i + g i) n = sum f n + sum g n
  | 0 => rfl
  | n + 1 => by
    rw [sum_s, sum_s, sum_s, sum_a n]
    grind
theorem sum_m : ∀ n, sum (fun i => c * f i) n = c * sum f n
  | 0 => (Int32.mul_zero).symm
  | n + 1 => by
    rw [sum_s, sum_s, sum_m n]
    grind
theorem sum_x (h : Nat → Nat → Int32) : ∀ n m, sum (fun i => sum (h i) m) n = sum (fun j => sum (fun i => h i j) n) m
  | 0, m => (sum_0 m (fun _ _ => rfl)).symm
  | n + 1, m => by
    rw [sum_s, sum_x h n m, ← sum_a]
    exact sum_c m (fun j _ => (sum_s (fun i => h i j) n).symm)
theorem lp_c (f : Nat → Int32) (c : Int32) : ∀ n, lp (fun i x => x + f i) 0 n c = c + sum f n
  | 0 => (Int32.add_zero c).symm
  | n + 1 => by
    rw [lp_last, lp_c f c n, sum_s, Nat.zero_add]
    grind
theorem sum_n {k : Nat → Nat} (h : ∀ i, i < n → f i = nI (k i)) : sum f n = nI (nsum k n) := by
  refine lp_inv (fun i (x : Int32) => x = nI (nsum k i)) _ n (fun i x hi hx => ?_) n 0 0 (by omega) rfl
  show x + f i = nI (nsum k i + k i)
  rw [hx, h i hi, nI_add]
/-- long sums -/
theorem i64_nI {k : Nat} (h : k < 2147483648) : (nI k).toInt64 = Int64.ofNat k := by
  apply Int64.toInt_inj.mp
  rw [Int32.toInt_toInt64, nI_toInt (by omega)]
  have := Int64.toInt_ofNat (n := k)
  rw [Int64.toInt_ofNat_of_lt (by omega)]
theorem o64_add (a b : Nat) : Int64.ofNat a + Int64.ofNat b = Int64.ofNat (a + b) := (Int64.ofNat_add a b).symm
theorem lp64 {k : Nat → Nat} {c : Nat} (h : ∀ i, i < n → f i = nI (k i) ∧ k i < 2147483648) : lp (fun i (x : Int64) => x + (f i).toInt64) 0 n (Int64.ofNat c) = Int64.ofNat (c + nsum k n) := by
  refine lp_inv (fun i (x : Int64) => x = Int64.ofNat (c + nsum k i)) _ n (fun i x hi hx => ?_) n 0 (Int64.ofNat c) (by omega) rfl
  show x + (f i).toInt64 = Int64.ofNat (c + (nsum k i + k i))
  rw [hx, (h i hi).1, i64_nI (h i hi).2, o64_add, Nat.add_assoc]
end ALG
