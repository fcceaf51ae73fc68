/-! lack -/
def nsum (f : Nat → Nat) : Nat → Nat
  | 0 => 0
  | n + 1 => nsum f n + f n
/-- what the due ones among the first cost of an asset -/
def pre (s : St) (a : Nat) : Nat → Nat
  | 0 => 0
  | i + 1 => pre s a i + if rp s i 1 = nI a ∧ isDue s i then tn (price s i) else 0
section LACK
variable {xl : Nat} {xs : Nat → Int32} {F : pm_F} {I : Nat → Nat → Int32} {N : Nat} {s : St} {nA nH nR Rb Mb Nb : Nat} {p f : Nat → Int32}
theorem nsum_c {f g : Nat → Nat} : ∀ n, (∀ i, i < n → f i = g i) → nsum f n = nsum g n
  | 0, _ => rfl
  | n + 1, h => by
    show nsum f n + f n = nsum g n + g n
    rw [nsum_c n (fun i hi => h i (by omega)), h n (by omega)]
theorem nsum_u {f g : Nat → Nat} {a d : Nat} : ∀ n, a < n → (∀ i, i < n → i ≠ a → f i = g i) → f a = g a + d → nsum f n = nsum g n + d
  | 0, h, _, _ => absurd h (by omega)
  | n + 1, h, h1, h2 => by
    show nsum f n + f n = nsum g n + g n + d
    by_cases e : n = a
    · subst e
      rw [nsum_c n (fun i hi => h1 i (by omega) (by omega)), h2]
      omega
    · rw [nsum_u n (by omega) (fun i hi => h1 i (by omega)) h2, h1 n (by omega) e]
      omega
theorem nsum_le {f : Nat → Nat} {m : Nat} : ∀ n, (∀ i, i < n → f i ≤ m) → nsum f n ≤ m * n
  | 0, _ => Nat.zero_le _
  | n + 1, h => by
    show nsum f n + f n ≤ m * (n + 1)
    have := nsum_le n (fun i hi => h i (by omega))
    have := h n (by omega)
    rw [Nat.mul_add]
    omega
theorem due4 {r : Nat} (h : Rw s r) (hd : isDue s r) : ¬ rp s r 4 = 0 := by
  obtain ⟨-, -, -, -, e⟩ := h
  rcases hd with hd | hd
  · exact e (Or.inl hd)
  · exact e (Or.inr (Or.inl hd))
theorem pre_s (s : St) (a i : Nat) : pre s a (i + 1) = pre s a i + if rp s i 1 = nI a ∧ isDue s i then tn (price s i) else 0 := rfl
theorem tn_p {c : Nat} (h : c ≤ 2880) : tn (nI c) = c := tn_n (by omega)
theorem pre_le (hI : Iv s nA nH nR) (hB : Bd Rb Mb Nb s nA nH) (a i : Nat) (hi : i ≤ nR) : pre s a i ≤ 2880 * i := by
  induction i with
  | zero => exact Nat.zero_le _
  | succ i ih =>
    have ih := ih (by omega)
    rw [pre_s]
    split
    · rename_i hc
      obtain ⟨c, hc1, -, hc2⟩ := price_n hI hB (show i < nR by omega) (due4 (hI.2 i (by omega)) hc.2)
      rw [hc1, tn_p hc2]
      omega
    · omega
theorem sum_pre (hI : Iv s nA nH nR) (hB : Bd Rb Mb Nb s nA nH) (a : Nat) : sum (fun r => if rp s r 1 = nI a ∧ isDue s r then price s r else 0) nR = nI (pre s a nR) := by
  refine lp_inv (fun i (x : Int32) => x = nI (pre s a i)) _ nR (fun i x hi h => ?_) nR 0 0 (by omega) rfl
  show x + (if rp s i 1 = nI a ∧ isDue s i then price s i else 0) = nI (pre s a (i + 1))
  rw [pre_s]
  rw [h]
  split
  · rename_i hc
    obtain ⟨c, hc1, -, hc2⟩ := price_n hI hB hi (due4 (hI.2 i hi) hc.2)
    rw [hc1, tn_p hc2, nI_add]
  · exact Int32.add_zero _
theorem dmax {a b : Nat} (ha : a < 1000000000) (hb : b < 1000000000) : (if 0 < nI a - nI b then nI a - nI b else 0) = nI (a - b) := by
  rcases Nat.lt_or_ge a b with h | h
  · have h1 := pk_sneg (by omega) h
    have h2 : ¬ 0 < nI a - nI b := fun q => by
      rw [Int32.lt_iff_toInt_lt] at h1 q
      omega
    rw [if_neg h2, show a - b = 0 by omega]
    rfl
  · rw [pk_sub h]
    split
    · rfl
    · rename_i z
      rcases Nat.eq_zero_or_pos (a - b) with q | q
      · rw [q]; rfl
      · exact absurd (nI_lt (a := 0) q (by omega)) z
theorem dmax2 {a b : Nat} (ha : a < 1000000000) (hb : b < 1000000000) : (if nI b < nI a then nI a - nI b else 0) = nI (a - b) := by
  rcases Nat.lt_or_ge b a with h | h
  · rw [if_pos (nI_lt h (by omega)), pk_sub (by omega)]
  · rw [if_neg (nI_nlt h (by omega)), show a - b = 0 by omega]
    rfl
/-- what the assets lack over their pools -/
def lacks (s : St) (nA i : Nat) : Nat := nsum (fun a => pre s a i - tn (ap s a 2)) nA
theorem lacks_le (hI : Iv s nA nH nR) (hB : Bd Rb Mb Nb s nA nH) {i : Nat} (hi : i ≤ nR) : lacks s nA i ≤ 1000000 := by
  have h6 := hI.1.1.2
  have h40 := hI.1.2.2.1.2
  have := nsum_le (f := fun a => pre s a i - tn (ap s a 2)) (m := 115200) nA (fun a ha => by
    have := pre_le hI hB a i hi
    show pre s a i - _ ≤ 115200
    omega)
  unfold lacks
  have : 115200 * nA ≤ 115200 * 6 := Nat.mul_le_mul (Nat.le_refl _) h6
  omega
end LACK
