/-! masks of hunters, bonuses; what is released -/
set_option maxRecDepth 100000 in
theorem bitT : ∀ n, n < 256 → ∀ k, k < 8 → ((nI n >>> (nI k &&& 31)) &&& 1 = 1 ↔ n.testBit k = true) := by decide +kernel
set_option maxRecDepth 100000 in
theorem onT : ∀ n, n < 256 → ∀ k, k < 8 → n.testBit k = false → onS (nI (n ||| 2 ^ k)) = onS (nI n) + 1 := by decide +kernel
theorem shl_n : ∀ k, k < 8 → (1 : Int32) <<< (nI k &&& 31) = nI (2 ^ k) := by decide +kernel
theorem bit01 : ∀ n, n < 256 → ∀ k, k < 8 → (nI n >>> (nI k &&& 31)) &&& 1 = if (nI n >>> (nI k &&& 31)) &&& 1 = 1 then 1 else 0 := by
  set_option maxRecDepth 100000 in decide +kernel
theorem sum_cut {f : Nat → Int32} {n : Nat} : ∀ m, n ≤ m → (∀ i, n ≤ i → i < m → f i = 0) → sum f m = sum f n
  | 0, h, _ => by rw [show n = 0 by omega]
  | m + 1, h, h2 => by
    by_cases e : n = m + 1
    · rw [e]
    · rw [sum_s, sum_cut m (by omega) (fun i h3 h4 => h2 i h3 (by omega)), h2 m (by omega) (by omega), Int32.add_zero]
section BITS
variable {s x y z : St} {nA nH nR Rb Mb Nb N : Nat} {v p t : Int32}
/-- one more who tells -/
theorem tel_all {w : Int32} (hv : vp_in w 256) {h : Nat} (hh : h < 8) (hb : ¬ bitS w h) : onS (w ||| ((1 : Int32) <<< (nI h &&& 31))) = onS w + 1 ∧ ∀ k, k < 8 → (bitS (w ||| ((1 : Int32) <<< (nI h &&& 31))) k → k = h ∨ bitS w k) := by
  obtain ⟨n, hn, rfl, -⟩ := vin hv (by omega)
  have hb' : n.testBit h = false := by
    cases e : n.testBit h with
    | false => rfl
    | true => exact absurd ((bitT n hn h hh).mpr e) hb
  rw [shl_n h hh, nI_or]
  have hp : 2 ^ h < 256 := Nat.pow_lt_pow_right (a := 2) (by decide) hh
  have h2 : n ||| 2 ^ h < 256 := Nat.or_lt_two_pow (n := 8) hn hp
  refine ⟨onT n hn h hh hb', fun k hk q => ?_⟩
  have q2 := (bitT _ h2 k hk).mp q
  rw [Nat.testBit_or, Nat.testBit_two_pow, Bool.or_eq_true] at q2
  rcases q2 with q2 | q2
  · exact Or.inr ((bitT n hn k hk).mpr q2)
  · exact Or.inl (of_decide_eq_true q2).symm
theorem bit_or {a b : Int32} (ha : vp_in a 256) (hb : vp_in b 256) {k : Nat} (hk : k < 8) (h : ¬ bitS (a ||| b) k) : ¬ bitS a k ∧ ¬ bitS b k := by
  obtain ⟨n, hn, rfl, -⟩ := vin ha (by omega)
  obtain ⟨m, hm, rfl, -⟩ := vin hb (by omega)
  rw [nI_or] at h
  have h2 : n ||| m < 256 := Nat.or_lt_two_pow (n := 8) hn hm
  refine ⟨fun q => h ((bitT _ h2 k hk).mpr ?_), fun q => h ((bitT _ h2 k hk).mpr ?_)⟩
  · rw [Nat.testBit_or, (bitT n hn k hk).mp q]; rfl
  · rw [Nat.testBit_or, (bitT m hm k hk).mp q, Bool.or_true]
theorem on_sum (hv : vp_in v 256) (h8 : nH ≤ 8) (hz : ∀ h, nH ≤ h → h < 8 → ¬ bitS v h) : onS v = sum (fun k => if bitS v k then 1 else 0) nH := by
  obtain ⟨n, hn, rfl, -⟩ := vin hv (by omega)
  unfold onS
  have : sum (fun k => (nI n >>> (nI k &&& 31)) &&& 1) 8 = sum (fun k => if bitS (nI n) k then 1 else 0) 8 := sum_c 8 (fun k hk => bit01 n hn k hk)
  rw [this]
  exact sum_cut 8 h8 (fun i h1 h2 => if_neg (hz i h1 h2))
/-- bonuses: from the reserve to the hunters -/
theorem bon_all (hI : Iv s nA nH nR) (hv : vp_in v 256) (hz : ∀ h, nH ≤ h → h < 8 → ¬ bitS v h) :
    M32 (bonS s nH v) nA nH = M32 s nA nH ∧ (huS (bonS s nH v) nH + gp s 8 = huS s nH + gp (bonS s nH v) 8 ∧ gp (bonS s nH v) 7 = gp s 7) ∧ (gp (bonS s nH v) 8 = gp s 8 ∨ gp (bonS s nH v) 8 = gp s 8 + onS v * gp s 3) ∧ (∀ a j, a < 6 → j < 3 → ap (bonS s nH v) a j = ap s a j) ∧ ∀ g, g < 9 → g ≠ 1 → g ≠ 8 → gp (bonS s nH v) g = gp s g := by
  have h8 := hI.1.2.1.2
  unfold bonS
  split
  · exact ⟨rfl, ⟨rfl, rfl⟩, Or.inl rfl, fun _ _ _ _ => rfl, fun _ _ _ _ => rfl⟩
  · have := lp_inv (fun i (x : St) => huS x nH = huS s nH + sum (fun h => if bitS v h then gp s 3 else 0) i ∧ (∀ g, g < 9 → gp x g = if g = 8 then gp s 8 + onS v * gp s 3 else if g = 1 then gp s 1 - onS v * gp s 3 else gp s g) ∧ ∀ a j, a < 6 → j < 3 → ap x a j = ap s a j) (bonG v (gp s 3)) nH (fun i x hi h => by
      obtain ⟨h1, h2, h3⟩ := h
      unfold bonG
      split
      · rename_i hc
        refine ⟨?_, fun g hg => ?_, fun a j ha hj => ?_⟩
        · have e1 : huS (sH (giveS x i (gp s 3)) i 3 (hp (giveS x i (gp s 3)) i 3 + 1)) nH = huS (giveS x i (gp s 3)) nH := sum_c nH (fun q hq => by rw [hp_sH (by decide) (by decide), if_neg (by omega)])
          rw [e1, hu_give hi, h1, sum_s, if_pos hc, Int32.add_assoc]
        · unfold giveS
          rw [gp_sH hg, gp_sH hg]; exact h2 g hg
        · unfold giveS
          rw [show ap (sH (sH x i 0 (hp x i 0 + gp s 3)) i 3 (hp (sH x i 0 (hp x i 0 + gp s 3)) i 3 + 1)) a j = ap x a j from by
            unfold ap sH upd
            rw [if_neg (by omega), if_neg (by omega)]]
          exact h3 a j ha hj
      · rename_i hc
        refine ⟨?_, h2, h3⟩
        rw [h1, sum_s, if_neg hc, Int32.add_zero]) nH 0 (sG (sG s 1 (gp s 1 - onS v * gp s 3)) 8 (gp s 8 + onS v * gp s 3)) (by omega) ⟨by
        show _ = _ + 0
        rw [Int32.add_zero]
        exact sum_c nH (fun q hq => by rw [hp_sG (by decide), hp_sG (by decide)]), fun g hg => by rw [gp_sG, gp_sG], fun a j ha hj => by
          unfold ap sG upd
          rw [if_neg (by omega), if_neg (by omega)]⟩
    generalize lp (bonG v (gp s 3)) 0 nH (sG (sG s 1 (gp s 1 - onS v * gp s 3)) 8 (gp s 8 + onS v * gp s 3)) = y at this
    obtain ⟨h1, h2, h3⟩ := this
    have e : sum (fun h => if bitS v h then gp s 3 else 0) nH = onS v * gp s 3 := by
      rw [on_sum hv h8 hz]
      have : sum (fun h => if bitS v h then gp s 3 else 0) nH = sum (fun h => gp s 3 * (if bitS v h then 1 else 0)) nH := sum_c nH (fun q hq => by
        split
        · rw [Int32.mul_one]
        · rw [Int32.mul_zero])
      rw [this, sum_m, Int32.mul_comm]
    have ep : poolS y nA = poolS s nA := sum_c nA (fun i hi => h3 i 2 (by have := hI.1.1.2; omega) (by decide))
    refine ⟨?_, ⟨?_, by rw [h2 7 (by decide), if_neg (by decide), if_neg (by decide)]⟩, Or.inr (by rw [h2 8 (by decide), if_pos rfl]), h3, fun g hg g1 g8 => by rw [h2 g hg, if_neg g8, if_neg g1]⟩
    · unfold M32
      rw [h1, e, ep, h2 1 (by decide), if_neg (by decide), if_pos rfl]
      grind
    · rw [h1, e, h2 8 (by decide), if_pos rfl]
      grind
/-- those folded into one are new again -/
theorem unf_all (s : St) (nR r : Nat) : (∀ o j, j < 12 → rp (unfS s nR r).1 o j = if o < nR ∧ under s r o then (if j = 5 then -10009 else if j = 3 then 0 else rp s o j) else rp s o j) ∧ (unfS s nR r).2 = undS s nR r := by
  have := lp_inv (fun i (x : St × Int32) => (∀ o j, j < 12 → rp x.1 o j = if o < i ∧ under s r o then (if j = 5 then -10009 else if j = 3 then 0 else rp s o j) else rp s o j) ∧ x.2 = sum (fun q => if under s r q then 1 else 0) i) (unfG r) nR (fun i x hi h => by
    obtain ⟨h1, h2⟩ := h
    have eu : under x.1 r i = under s r i := by
      show (rp x.1 i 3 = 5 ∧ rp x.1 i 5 = nI r) = (rp s i 3 = 5 ∧ rp s i 5 = nI r)
      rw [h1 i 3 (by decide), h1 i 5 (by decide), if_neg (by omega), if_neg (by omega)]
    unfold unfG
    by_cases hc : under s r i
    · rw [if_pos (by rw [eu]; exact hc)]
      refine ⟨fun o j hj => ?_, ?_⟩
      · dsimp only
        rw [rp_sR hj (by decide), rp_sR hj (by decide), h1 o j hj]
        by_cases e : o = i
        · subst e
          rw [if_neg (show ¬ (o < o ∧ under s r o) by omega), if_pos (show o < o + 1 ∧ under s r o from ⟨by omega, hc⟩)]
          simp only [true_and]
        · rw [if_neg (fun z => e z.1), if_neg (fun z => e z.1)]
          by_cases c2 : under s r o
          · by_cases c3 : o < i
            · rw [if_pos (show o < i ∧ under s r o from ⟨c3, c2⟩), if_pos (show o < i + 1 ∧ under s r o from ⟨by omega, c2⟩)]
            · rw [if_neg (fun z => c3 z.1), if_neg (fun z => absurd z.1 (by omega))]
          · rw [if_neg (fun z => c2 z.2), if_neg (fun z => c2 z.2)]
      · dsimp only
        rw [h2, sum_s, if_pos hc]
    · rw [if_neg (by rw [eu]; exact hc)]
      refine ⟨fun o j hj => ?_, ?_⟩
      · rw [h1 o j hj]
        by_cases c2 : under s r o
        · by_cases e : o = i
          · rw [e] at c2; exact absurd c2 hc
          · by_cases c3 : o < i
            · rw [if_pos (show o < i ∧ under s r o from ⟨c3, c2⟩), if_pos (show o < i + 1 ∧ under s r o from ⟨by omega, c2⟩)]
            · rw [if_neg (fun z => c3 z.1), if_neg (fun z => absurd z.1 (by omega))]
        · rw [if_neg (fun z => c2 z.2), if_neg (fun z => c2 z.2)]
      · rw [h2, sum_s, if_neg hc, Int32.add_zero]) nR 0 (s, 0) (by omega) ⟨fun o j hj => by rw [if_neg (by omega)], rfl⟩
  exact this
end BITS
