/-! what the methods do to the model's row -/
def tn (x : Int32) : Nat := x.toNatClampNeg
theorem tn_n {i : Nat} (h : i < 2147483648) : tn (nI i) = i := nI_clamp (by omega)
theorem vin {x : Int32} {n : Nat} (h : vp_in x n) (hn : n ≤ 1000000) : ∃ i, i < n ∧ x = nI i ∧ tn x = i := by
  obtain ⟨i, h1, h2⟩ := vp_in_of h (by omega)
  exact ⟨i, h1, h2, by rw [h2]; exact tn_n (by omega)⟩
/-- out of range -/
abbrev out (x : Int32) (n : Nat) : Prop := x < 0 ∨ n ≤ x.toNatClampNeg
/-- counts, and who and what each report is of -/
def Ty (s : St) (nA nH nR : Nat) : Prop := (gp s 4 = nI nA ∧ nA ≤ 6) ∧ (gp s 5 = nI nH ∧ nH ≤ 8) ∧ (gp s 6 = nI nR ∧ nR ≤ 40) ∧ ∀ r, r < nR → vp_in (rp s r 0) nH ∧ vp_in (rp s r 1) nA
def prS (s : St) (r : Nat) (sv : Int32) : Int32 := sv * sv * ap s (tn (rp s r 1)) 0 * 10 * gp s 2 / 100
def price (s : St) (r : Nat) : Int32 := prS s r (rp s r 4)
abbrev isDue (s : St) (r : Nat) : Prop := rp s r 3 = 1 ∨ rp s r 3 = 2
abbrev under (s : St) (r o : Nat) : Prop := rp s o 3 = 5 ∧ rp s o 5 = nI r
def origS (s : St) (r : Nat) : Int32 := if rp s r 3 = 0 then ff (fun o => decide (rp s o 1 = rp s r 1 ∧ rp s o 2 = rp s r 2 ∧ rp s o 3 < 4)) 0 r else -10009
def unfG (r o : Nat) (x : St × Int32) : St × Int32 := if under x.1 r o then (sR (sR x.1 o 3 0) o 5 (-10009), x.2 + 1) else x
def unfS (s : St) (nR r : Nat) : St × Int32 := lp (unfG r) 0 nR (s, 0)
def giveS (s : St) (h : Nat) (v : Int32) : St := sH s h 0 (hp s h 0 + v)
def shaG (r : Nat) (p : Int32) (o : Nat) (x : St × Int32 × Int32) : St × Int32 × Int32 := if x.2.2 < 3 ∧ under x.1 r o then (giveS x.1 (tn (rp x.1 o 0)) (p / 10), x.2.1 - p / 10, x.2.2 + 1) else x
def payA (s : St) (r a : Nat) (p own : Int32) : St :=
  sR (sR (sG (sG (sA s a 2 (ap s a 2 - own)) 1 (gp s 1 - (p - own))) 7 (gp s 7 + p)) r 3 3) r 8 p
def payB (s : St) (nR r : Nat) (p : Int32) : St := giveS (lp (shaG r p) 0 nR (s, p, 0)).1 (tn (rp (lp (shaG r p) 0 nR (s, p, 0)).1 r 0)) (lp (shaG r p) 0 nR (s, p, 0)).2.1
def ownS (s : St) (a : Nat) (p : Int32) : Int32 := if ap s a 2 < p then ap s a 2 else p
def paysS (s : St) (nR r : Nat) : St × Int32 :=
  if ap s (tn (rp s r 1)) 2 + gp s 1 < price s r then (sR s r 3 2, 0) else (payB (payA s r (tn (rp s r 1)) (price s r) (ownS s (tn (rp s r 1)) (price s r))) nR r (price s r), price s r)
def staS (s : St) (a : Nat) : Int32 := if ap s a 2 < ap s a 1 then ap s a 2 else ap s a 1
def alG (a : Nat) (s : St) : St := sA (sG s 1 (gp s 1 + (ap s a 2 - staS s a))) a 2 (staS s a + ap s a 1)
def begG (nR r : Nat) (x : St × Int32) : St × Int32 := if rp x.1 r 3 = 2 ∧ ¬ rp x.1 r 6 = 1 then ((paysS x.1 nR r).1, x.2 + if 0 < (paysS x.1 nR r).2 then 1 else 0) else x
def begS (s : St) (nA nR : Nat) : St × Int32 := lp (begG nR) 0 nR (lp alG 0 nA s, 0)
abbrev sum (f : Nat → Int32) (n : Nat) : Int32 := lp (fun i x => x + f i) 0 n 0
def stR (s : St) (h r : Nat) : Int32 := if rp s r 0 = nI h then (if rp s r 3 = 3 then 3 else if rp s r 3 = 5 then 1 else if rp s r 3 = 4 then -2 else 0) else 0
def stnS (s : St) (nR h : Nat) : Int32 := lp (fun r x => x + stR s h r) 0 nR (2 * hp s h 1 - hp s h 2 + hp s h 3)
section TY
variable {s : St} {nA nH nR : Nat} {v : Int32}
theorem Ty.sR (h : Ty s nA nH nR) {r j : Nat} (hr : r < 40) (h0 : j ≠ 0) (h1 : j ≠ 1) (hj : j < 12) : Ty (sR s r j v) nA nH nR := by
  obtain ⟨a, b, c, d⟩ := h
  refine ⟨?_, ?_, ?_, fun q hq => ?_⟩
  · rw [gp_sR (by omega)]; exact a
  · rw [gp_sR (by omega)]; exact b
  · rw [gp_sR (by omega)]; exact c
  · rw [rp_sR (by omega) hj, rp_sR (by omega) hj, if_neg (by omega), if_neg (by omega)]
    exact d q hq
theorem Ty.sG (h : Ty s nA nH nR) {g : Nat} (h4 : g ≠ 4) (h5 : g ≠ 5) (h6 : g ≠ 6) (hg : g < 9) : Ty (sG s g v) nA nH nR := by
  obtain ⟨a, b, c, d⟩ := h
  refine ⟨?_, ?_, ?_, fun q hq => ?_⟩
  · rw [gp_sG, if_neg (by omega)]; exact a
  · rw [gp_sG, if_neg (by omega)]; exact b
  · rw [gp_sG, if_neg (by omega)]; exact c
  · rw [rp_sG (by omega), rp_sG (by omega)]
    exact d q hq
theorem Ty.sA (h : Ty s nA nH nR) {a j : Nat} (ha : a < 6) (hj : j < 3) : Ty (sA s a j v) nA nH nR := by
  obtain ⟨a, b, c, d⟩ := h
  refine ⟨?_, ?_, ?_, fun q hq => ?_⟩
  · rw [gp_sA (by omega)]; exact a
  · rw [gp_sA (by omega)]; exact b
  · rw [gp_sA (by omega)]; exact c
  · rw [rp_sA ha hj, rp_sA ha hj]
    exact d q hq
theorem Ty.sH (h : Ty s nA nH nR) {a j : Nat} (ha : a < 8) (hj : j < 4) : Ty (sH s a j v) nA nH nR := by
  obtain ⟨a, b, c, d⟩ := h
  refine ⟨?_, ?_, ?_, fun q hq => ?_⟩
  · rw [gp_sH (by omega)]; exact a
  · rw [gp_sH (by omega)]; exact b
  · rw [gp_sH (by omega)]; exact c
  · rw [rp_sH ha hj, rp_sH ha hj]
    exact d q hq
end TY

