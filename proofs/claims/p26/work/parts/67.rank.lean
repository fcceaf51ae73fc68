/-! places of the standings; counts that fit one another -/
section RANK
variable {s x y z : St} {nA nH nR Rb Mb Nb N : Nat} {v p t : Int32} {f g : Nat → Nat} {n a b : Nat}
theorem nsum_mono : ∀ n, (∀ i, i < n → f i ≤ g i) → nsum f n ≤ nsum g n
  | 0, _ => Nat.le_refl _
  | n + 1, h => by
    show nsum f n + f n ≤ nsum g n + g n
    have := nsum_mono n (fun i hi => h i (by omega))
    have := h n (by omega)
    omega
theorem nsum_lt : ∀ n, a < n → (∀ i, i < n → f i ≤ g i) → f a + 1 ≤ g a → nsum f n + 1 ≤ nsum g n
  | 0, h, _, _ => absurd h (by omega)
  | n + 1, h, h1, h2 => by
    show nsum f n + f n + 1 ≤ nsum g n + g n
    by_cases e : a = n
    · subst e
      have := nsum_mono a (fun i hi => h1 i (by omega))
      omega
    · have := nsum_lt n (by omega) (fun i hi => h1 i (by omega)) h2
      have := h1 n (by omega)
      omega
theorem nsum_one : ∀ n, nsum (fun _ => 1) n = n
  | 0 => rfl
  | n + 1 => by
    show nsum (fun _ => 1) n + 1 = n + 1
    rw [nsum_one n]
/-- as many places as there are -/
theorem php : ∀ n (f : Nat → Nat), (∀ i, i < n → f i < n) → (∀ i j, i < n → j < n → f i = f j → i = j) → ∀ v, v < n → ∃ i, i < n ∧ f i = v
  | 0, _, _, _, v, hv => absurd hv (by omega)
  | n + 1, f, h, hinj, v, hv => by
    by_cases e : v = f n
    · exact ⟨n, by omega, e.symm⟩
    · have hne : ∀ i, i < n → f i ≠ f n := fun i hi q => by
        have := hinj i n (by omega) (by omega) q
        omega
      have hn := h n (by omega)
      obtain ⟨i, hi, ei⟩ := php n (fun i => if f n < f i then f i - 1 else f i) (fun i hi => by
        have := h i (by omega)
        have := hne i hi
        show (if f n < f i then f i - 1 else f i) < n
        split <;> omega) (fun i j hi hj q => by
        have q : (if f n < f i then f i - 1 else f i) = (if f n < f j then f j - 1 else f j) := q
        have := hne i hi
        have := hne j hj
        refine hinj i j (by omega) (by omega) ?_
        split at q <;> split at q <;> omega) (if f n < v then v - 1 else v) (by split <;> omega)
      have ei : (if f n < f i then f i - 1 else f i) = (if f n < v then v - 1 else v) := ei
      have := hne i hi
      refine ⟨i, by omega, ?_⟩
      split at ei <;> split at ei <;> omega
theorem ah_iff (s : St) (nR a b : Nat) : ahead s nR a b ↔ ((stnS s nR a).toInt = (stnS s nR b).toInt ∧ ((hp s a 0).toInt = (hp s b 0).toInt ∧ a < b ∨ ¬ (hp s a 0).toInt = (hp s b 0).toInt ∧ (hp s b 0).toInt < (hp s a 0).toInt) ∨ ¬ (stnS s nR a).toInt = (stnS s nR b).toInt ∧ (stnS s nR b).toInt < (stnS s nR a).toInt) := by
  unfold ahead
  rw [Int32.lt_iff_toInt_lt, Int32.lt_iff_toInt_lt, ← Int32.toInt_inj, ← Int32.toInt_inj]
theorem ah_tr {c : Nat} (h1 : ahead s nR a b) (h2 : ahead s nR b c) : ahead s nR a c := by
  rw [ah_iff] at h1 h2 ⊢
  omega
theorem ah_irr : ¬ ahead s nR a a := by
  rw [ah_iff]
  omega
theorem ah_tot (h : a ≠ b) : ahead s nR a b ∨ ahead s nR b a := by
  rw [ah_iff, ah_iff]
  omega
def rank (s : St) (nR nH b : Nat) : Nat := nsum (fun a => if ahead s nR a b then 1 else 0) nH
theorem cnt_rank (s : St) (nR nH b : Nat) : cntA s nR nH b = nI (rank s nR nH b) := sum_n (f := fun a => if ahead s nR a b then 1 else 0) (fun i _ => by
  by_cases h : ahead s nR i b
  · rw [if_pos h, if_pos h]; rfl
  · rw [if_neg h, if_neg h]; rfl)
theorem rank_lt (ha : a < nH) (h : ahead s nR a b) : rank s nR nH a < rank s nR nH b := by
  refine nsum_lt nH ha (fun i _ => ?_) ?_
  · by_cases hi : ahead s nR i a
    · rw [if_pos hi, if_pos (ah_tr hi h)]; exact Nat.le_refl _
    · rw [if_neg hi]; exact Nat.zero_le _
  · rw [if_neg ah_irr, if_pos h]; exact Nat.le_refl _
theorem rank_n (hb : b < nH) : rank s nR nH b < nH := by
  have := nsum_lt (f := fun a => if ahead s nR a b then 1 else 0) (g := fun _ => 1) nH hb (fun i _ => by
    show (if ahead s nR i b then 1 else 0) ≤ 1
    split <;> omega) (by
    show (if ahead s nR b b then 1 else 0) + 1 ≤ 1
    rw [if_neg ah_irr]
    exact Nat.le_refl _)
  rw [nsum_one] at this
  exact this
theorem rank_inj (ha : a < nH) (hb : b < nH) (h : rank s nR nH a = rank s nR nH b) : a = b := Classical.byContradiction fun q => by
  rcases ah_tot (s := s) (nR := nR) q with z | z
  · have := rank_lt ha z; omega
  · have := rank_lt hb z; omega
/-- the hunter at each place -/
theorem best_at (h8 : nH ≤ 8) {k : Nat} (hk : k < nH) : ∃ i, i < nH ∧ bestS s nR nH (nI k) = nI i ∧ rank s nR nH i = k := by
  unfold bestS
  rcases ff_some (P := fun i => decide (cntA s nR nH i = nI k)) nH 0 with ⟨-, h⟩ | ⟨i, -, h1, h2, h3, -⟩
  · obtain ⟨i, hi, ei⟩ := php nH (rank s nR nH) (fun i hi => rank_n hi) (fun i j hi hj => rank_inj hi hj) k hk
    have := of_decide_eq_false (h i (by omega) (by omega))
    rw [cnt_rank, ei] at this
    exact absurd rfl this
  · refine ⟨i, by omega, h2, ?_⟩
    have := of_decide_eq_true h3
    rw [cnt_rank] at this
    have hr := rank_n (s := s) (nR := nR) (show i < nH by omega)
    exact (nI_eq (by omega) (by omega)).mp this
theorem best_no (h8 : nH ≤ 8) : bestS s nR nH (nI nH) = -10009 := by
  unfold bestS
  rcases ff_some (P := fun i => decide (cntA s nR nH i = nI nH)) nH 0 with ⟨h, -⟩ | ⟨i, -, h1, h2, h3, -⟩
  · exact h
  · have := of_decide_eq_true h3
    rw [cnt_rank] at this
    have hr := rank_n (s := s) (nR := nR) (show i < nH by omega)
    have := (nI_eq (by omega) (by omega)).mp this
    omega
theorem best_ord (ha : a < nH) (hb : b < nH) (h : rank s nR nH a < rank s nR nH b) : ahead s nR a b := by
  by_cases e : a = b
  · subst e; omega
  · rcases ah_tot (s := s) (nR := nR) e with z | z
    · exact z
    · have := rank_lt hb z; omega
/-- all that are folded lie under one -/
theorem under_all (h : PI N s nA nH nR) : sum (fun k => undS s nR k) nR = cntS s nR 5 := by
  have h40 := h.1.1.1.2.2.1.2
  refine (sum_x (fun k q => if under s k q then 1 else 0) nR nR).trans (sum_c nR (fun q hq => ?_))
  by_cases h5 : rp s q 3 = 5
  · rw [if_pos h5]
    obtain ⟨i, hi, ei, -⟩ := h.2.1 q hq h5
    have := sum_1 (f := fun k => if under s k q then (1 : Int32) else 0) (n := nR) (a := i) (by omega) (fun k hk hne => if_neg (fun z => by
      have := z.2
      rw [ei] at this
      exact hne ((nI_eq (by omega) (by omega)).mp this).symm))
    rw [this, if_pos ⟨h5, ei⟩]
  · rw [if_neg h5]
    exact sum_0 nR (fun k _ => if_neg (fun z => h5 z.1))
theorem for_all (hI : Iv s nA nH nR) : sum (fun a => forS s nR a) nA = nI nR := by
  have h6 := hI.1.1.2
  have h40 := hI.1.2.2.1.2
  refine (sum_x (fun a q => if rp s q 1 = nI a then 1 else 0) nA nR).trans ?_
  have := sum_n (f := fun q => sum (fun a => if rp s q 1 = nI a then 1 else 0) nA) (n := nR) (k := fun _ => 1) (fun q hq => by
    obtain ⟨a, haA, hra, -⟩ := vin (hI.1.2.2.2 q hq).2 (by omega)
    have := sum_1 (f := fun k => if rp s q 1 = nI k then (1 : Int32) else 0) (n := nA) (a := a) haA (fun k hk hne => if_neg (fun z => by
      rw [hra] at z
      exact hne ((nI_eq (by omega) (by omega)).mp z).symm))
    rw [this, if_pos hra]; rfl)
  rw [this, nsum_one]
/-- some lie under it -/
theorem und_pos (hI : Iv s nA nH nR) {i k : Nat} (hk : k < nR) (h : under s i k) : 0 < undS s nR i := by
  have h40 := hI.1.2.2.1.2
  have e : undS s nR i = nI (nsum (fun q => if under s i q then 1 else 0) nR) := sum_n (fun q _ => by
    by_cases hu : under s i q
    · rw [if_pos hu, if_pos hu]; rfl
    · rw [if_neg hu, if_neg hu]; rfl)
  have h1 := nsum_lt (f := fun _ => 0) (g := fun q => if under s i q then 1 else 0) nR hk (fun _ _ => Nat.zero_le _) (by
    show 0 + 1 ≤ (if under s i k then 1 else 0)
    rw [if_pos h]
    exact Nat.le_refl _)
  have h2 := nsum_le (f := fun q => if under s i q then 1 else 0) (m := 1) nR (fun q _ => by
    show (if under s i q then 1 else 0) ≤ 1
    split <;> omega)
  rw [e]
  exact nI_lt (a := 0) (by omega) (by omega)
/-- nothing lies under one that is folded -/
theorem und_zero (h : PI N s nA nH nR) {k : Nat} (hk : k < nR) (h5 : rp s k 3 = 5) : undS s nR k = 0 := by
  have h40 := h.1.1.1.2.2.1.2
  refine sum_0 nR (fun q hq => if_neg (fun z => ?_))
  obtain ⟨i, hi, ei, -, ⟨-, g⟩, -⟩ := h.2.1 q hq z.1
  have := z.2
  rw [ei] at this
  have := (nI_eq (by omega) (by omega)).mp this
  subst this
  exact g h5
/-- a price, and what it is without the rate -/
theorem price_w (hI : Iv s nA nH nR) (hB : Bd Rb Mb Nb s nA nH) {r : Nat} (hrR : r < nR) (h4 : ¬ rp s r 4 = 0) : ∃ x w p a, rp s r 4 = nI x ∧ 1 ≤ x ∧ x ≤ 4 ∧ a < nA ∧ rp s r 1 = nI a ∧ ap s a 0 = nI w ∧ 1 ≤ w ∧ w ≤ 9 ∧ price s r = nI p ∧ 10 * x * x * w ≤ 2 * p + 2 ∧ p ≤ 2 * (10 * x * x * w) ∧ p ≤ 2880 ∧ 10 * x * x * w ≤ 1440 ∧ 10 ≤ 10 * x * x * w := by
  obtain ⟨a, haA, hra, ht⟩ := vin (hI.1.2.2.2 r hrR).2 (by have := hI.1.1.2; omega)
  obtain ⟨x, hx, hx4, -⟩ := vin (hI.2 r hrR).1.2.1 (by omega)
  obtain ⟨⟨w1, w2⟩, -, -⟩ := hB.2.1 a haA
  obtain ⟨w, hw, hw0, -⟩ := vin w1 (by omega)
  obtain ⟨g, hg, hg2, -⟩ := vin hB.1.2.2.1.1 (by omega)
  have x0 : 1 ≤ x := by
    rcases Nat.eq_zero_or_pos x with q | q
    · exact absurd (by rw [hx4, q]; rfl) h4
    · exact q
  have w0 : 1 ≤ w := by
    rcases Nat.eq_zero_or_pos w with q | q
    · exact absurd (by rw [hw0, q]; rfl) w2
    · exact q
  have g0 : 50 ≤ g := by
    rcases Nat.lt_or_ge g 50 with q | q
    · exact absurd (by rw [hg2]; exact nI_lt (b := 50) q (by omega)) hB.1.2.2.1.2
    · exact q
  have e1 : 1 ≤ x * x * w := Nat.mul_pos (Nat.mul_pos x0 x0) w0
  have e2 : x * x * w ≤ 144 := Nat.mul_le_mul (Nat.mul_le_mul (show x ≤ 4 by omega) (show x ≤ 4 by omega)) (show w ≤ 9 by omega)
  have e3 : x * x * w * 10 * g ≤ x * x * w * 10 * 200 := Nat.mul_le_mul (Nat.le_refl _) (by omega)
  have e4 : x * x * w * 10 * 50 ≤ x * x * w * 10 * g := Nat.mul_le_mul (Nat.le_refl _) g0
  have e5 : 10 * x * x * w = x * x * w * 10 := by
    rw [Nat.mul_comm 10 x, Nat.mul_right_comm x 10 x, Nat.mul_right_comm (x * x) 10 w]
  refine ⟨x, w, x * x * w * 10 * g / 100, a, hx4, x0, by omega, haA, hra, hw0, w0, by omega, ?_, by omega, by omega, by omega, by omega, by omega⟩
  unfold price prS
  rw [ht, hx4, hw0, hg2, pk_mul, pk_mul]
  show nI (x * x * w) * nI 10 * nI g / nI 100 = _
  rw [pk_mul, pk_mul, pk_div (by omega) (by omega) (by omega)]
end RANK
