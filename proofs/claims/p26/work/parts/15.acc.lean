/-! the model's row of 539 numbers, by its parts -/
abbrev St : Type := Nat → Int32
def gp (s : St) (g : Nat) : Int32 := s g
def ap (s : St) (a j : Nat) : Int32 := s (9 + 3 * a + j)
def hp (s : St) (h j : Nat) : Int32 := s (27 + 4 * h + j)
def rp (s : St) (r j : Nat) : Int32 := s (59 + 12 * r + j)
def sG (s : St) (g : Nat) (v : Int32) : St := upd s g v
def sA (s : St) (a j : Nat) (v : Int32) : St := upd s (9 + 3 * a + j) v
def sH (s : St) (h j : Nat) (v : Int32) : St := upd s (27 + 4 * h + j) v
def sR (s : St) (r j : Nat) (v : Int32) : St := upd s (59 + 12 * r + j) v
def gq (f : Nat → Int32) (j : Nat) : Int32 := f j
def row (I : Nat → Nat → Int32) (k : Nat) (f : Nat → Int32) : Nat → Nat → Int32 := fun a => if a = k then f else I a
section ACC
variable {s : St} {F : pm_F} {I : Nat → Nat → Int32} {k : Nat} {f g : Nat → Int32} {v : Int32}
theorem row_s : row I k f k = f := by unfold row; rw [if_pos rfl]
theorem row_n {a : Nat} (h : a ≠ k) : row I k f a = I a := by unfold row; rw [if_neg h]
theorem row_row : row (row I k f) k g = row I k g := by funext a; unfold row; split <;> rfl
theorem row_self : row I k (I k) = I := by
  funext a
  unfold row
  split
  · rename_i h; rw [h]
  · rfl
theorem row_swap {a : Nat} (h : a ≠ k) : row (row I k f) a g = row (row I a g) k f := by
  funext b
  unfold row
  by_cases h1 : b = a
  · subst h1; rw [if_pos rfl, if_neg h, if_pos rfl]
  · rw [if_neg h1]
    by_cases h2 : b = k
    · rw [if_pos h2, if_pos h2]
    · rw [if_neg h2, if_neg h2, if_neg h1]
theorem gw {o j : Nat} : pm_setI (pm_G F I) o j v = pm_G F (row I o (upd (I o) j v)) := by
  show pm_G F (pm_u2 I o j v) = _
  refine congrArg (pm_G F) ?_
  funext a b
  unfold pm_u2 row upd
  by_cases h : a = o
  · subst h
    by_cases h2 : b = j
    · subst h2; rw [if_pos ⟨rfl, rfl⟩, if_pos rfl, if_pos rfl]
    · rw [if_neg (fun q => h2 q.2), if_pos rfl, if_neg h2]
  · rw [if_neg (fun q => h q.1), if_neg h]
theorem gj {o j : Nat} : pm_is (pm_G F I) o j = gq (I o) j := rfl
theorem z0 : zb 0 := Or.inl rfl
theorem z1 : zb 1 := Or.inr rfl
theorem zi {P : Prop} [Decidable P] : zb (if P then (1 : Int32) else 0) := by unfold zb; split <;> decide
theorem zj {P : Prop} [Decidable P] : zb (if P then (0 : Int32) else 1) := by unfold zb; split <;> decide
theorem one0 : ((1 : Int32) = 0) = False := eq_false (by decide)
theorem i10 {P : Prop} [Decidable P] : ((if P then (1 : Int32) else 0) = 0) = ¬ P := by by_cases h : P <;> simp [h]
theorem i01 {P : Prop} [Decidable P] : ((if P then (0 : Int32) else 1) = 0) = P := by by_cases h : P <;> simp [h]

theorem gp_sG {g g' : Nat} : gp (sG s g' v) g = if g = g' then v else gp s g := rfl
theorem gp_sA {g a' j' : Nat} (h0 : g < 9) : gp (sA s a' j' v) g = gp s g := by
  unfold gp sA upd
  rw [if_neg (by omega)]
theorem gp_sH {g h' j' : Nat} (h0 : g < 9) : gp (sH s h' j' v) g = gp s g := by
  unfold gp sH upd
  rw [if_neg (by omega)]
theorem gp_sR {g r' j' : Nat} (h0 : g < 9) : gp (sR s r' j' v) g = gp s g := by
  unfold gp sR upd
  rw [if_neg (by omega)]
theorem ap_sG {a j g' : Nat} (h0 : g' < 9) : ap (sG s g' v) a j = ap s a j := by
  unfold ap sG upd
  rw [if_neg (by omega)]
theorem ap_sA {a a' j j' : Nat} (hj : j < 3) (hj' : j' < 3) : ap (sA s a' j' v) a j = if a = a' ∧ j = j' then v else ap s a j := by
  unfold ap sA upd
  by_cases h : a = a' ∧ j = j'
  · rw [if_pos h, if_pos (by omega)]
  · rw [if_neg h, if_neg (by omega)]
theorem ap_sH {a j h' j' : Nat} (h0 : a < 6) (h1 : j < 3) : ap (sH s h' j' v) a j = ap s a j := by
  unfold ap sH upd
  rw [if_neg (by omega)]
theorem ap_sR {a j r' j' : Nat} (h0 : a < 6) (h1 : j < 3) : ap (sR s r' j' v) a j = ap s a j := by
  unfold ap sR upd
  rw [if_neg (by omega)]
theorem hp_sG {h j g' : Nat} (h0 : g' < 9) : hp (sG s g' v) h j = hp s h j := by
  unfold hp sG upd
  rw [if_neg (by omega)]
theorem hp_sA {h j a' j' : Nat} (h0 : a' < 6) (h1 : j' < 3) : hp (sA s a' j' v) h j = hp s h j := by
  unfold hp sA upd
  rw [if_neg (by omega)]
theorem hp_sH {h h' j j' : Nat} (hj : j < 4) (hj' : j' < 4) : hp (sH s h' j' v) h j = if h = h' ∧ j = j' then v else hp s h j := by
  unfold hp sH upd
  by_cases h : h = h' ∧ j = j'
  · rw [if_pos h, if_pos (by omega)]
  · rw [if_neg h, if_neg (by omega)]
theorem hp_sR {h j r' j' : Nat} (h0 : h < 8) (h1 : j < 4) : hp (sR s r' j' v) h j = hp s h j := by
  unfold hp sR upd
  rw [if_neg (by omega)]
theorem rp_sG {r j g' : Nat} (h0 : g' < 9) : rp (sG s g' v) r j = rp s r j := by
  unfold rp sG upd
  rw [if_neg (by omega)]
theorem rp_sA {r j a' j' : Nat} (h0 : a' < 6) (h1 : j' < 3) : rp (sA s a' j' v) r j = rp s r j := by
  unfold rp sA upd
  rw [if_neg (by omega)]
theorem rp_sH {r j h' j' : Nat} (h0 : h' < 8) (h1 : j' < 4) : rp (sH s h' j' v) r j = rp s r j := by
  unfold rp sH upd
  rw [if_neg (by omega)]
theorem rp_sR {r r' j j' : Nat} (hj : j < 12) (hj' : j' < 12) : rp (sR s r' j' v) r j = if r = r' ∧ j = j' then v else rp s r j := by
  unfold rp sR upd
  by_cases h : r = r' ∧ j = j'
  · rw [if_pos h, if_pos (by omega)]
  · rw [if_neg h, if_neg (by omega)]
theorem ixA0 {a : Nat} (hb : a < 6) : vp_in (nI (9 + 3 * a + 0)) 539 := vp_in_nI (by omega) (by omega)
theorem clA0 {a : Nat} (hb : a < 6) : (nI (9 + 3 * a + 0)).toNatClampNeg = 9 + 3 * a + 0 := cl_n (by omega)
theorem rdA0 {a : Nat} : gq s (9 + 3 * a + 0) = ap s a 0 := rfl
theorem wrA0 {a : Nat} : upd s (9 + 3 * a + 0) v = sA s a 0 v := rfl
theorem ixA1 {a : Nat} (hb : a < 6) : vp_in (nI (9 + 3 * a + 1)) 539 := vp_in_nI (by omega) (by omega)
theorem clA1 {a : Nat} (hb : a < 6) : (nI (9 + 3 * a + 1)).toNatClampNeg = 9 + 3 * a + 1 := cl_n (by omega)
theorem rdA1 {a : Nat} : gq s (9 + 3 * a + 1) = ap s a 1 := rfl
theorem wrA1 {a : Nat} : upd s (9 + 3 * a + 1) v = sA s a 1 v := rfl
theorem ixA2 {a : Nat} (hb : a < 6) : vp_in (nI (9 + 3 * a + 2)) 539 := vp_in_nI (by omega) (by omega)
theorem clA2 {a : Nat} (hb : a < 6) : (nI (9 + 3 * a + 2)).toNatClampNeg = 9 + 3 * a + 2 := cl_n (by omega)
theorem rdA2 {a : Nat} : gq s (9 + 3 * a + 2) = ap s a 2 := rfl
theorem wrA2 {a : Nat} : upd s (9 + 3 * a + 2) v = sA s a 2 v := rfl
theorem ixH0 {h : Nat} (hb : h < 8) : vp_in (nI (27 + 4 * h + 0)) 539 := vp_in_nI (by omega) (by omega)
theorem clH0 {h : Nat} (hb : h < 8) : (nI (27 + 4 * h + 0)).toNatClampNeg = 27 + 4 * h + 0 := cl_n (by omega)
theorem rdH0 {h : Nat} : gq s (27 + 4 * h + 0) = hp s h 0 := rfl
theorem wrH0 {h : Nat} : upd s (27 + 4 * h + 0) v = sH s h 0 v := rfl
theorem ixH1 {h : Nat} (hb : h < 8) : vp_in (nI (27 + 4 * h + 1)) 539 := vp_in_nI (by omega) (by omega)
theorem clH1 {h : Nat} (hb : h < 8) : (nI (27 + 4 * h + 1)).toNatClampNeg = 27 + 4 * h + 1 := cl_n (by omega)
theorem rdH1 {h : Nat} : gq s (27 + 4 * h + 1) = hp s h 1 := rfl
theorem wrH1 {h : Nat} : upd s (27 + 4 * h + 1) v = sH s h 1 v := rfl
theorem ixH2 {h : Nat} (hb : h < 8) : vp_in (nI (27 + 4 * h + 2)) 539 := vp_in_nI (by omega) (by omega)
theorem clH2 {h : Nat} (hb : h < 8) : (nI (27 + 4 * h + 2)).toNatClampNeg = 27 + 4 * h + 2 := cl_n (by omega)
theorem rdH2 {h : Nat} : gq s (27 + 4 * h + 2) = hp s h 2 := rfl
theorem wrH2 {h : Nat} : upd s (27 + 4 * h + 2) v = sH s h 2 v := rfl
theorem ixH3 {h : Nat} (hb : h < 8) : vp_in (nI (27 + 4 * h + 3)) 539 := vp_in_nI (by omega) (by omega)
theorem clH3 {h : Nat} (hb : h < 8) : (nI (27 + 4 * h + 3)).toNatClampNeg = 27 + 4 * h + 3 := cl_n (by omega)
theorem rdH3 {h : Nat} : gq s (27 + 4 * h + 3) = hp s h 3 := rfl
theorem wrH3 {h : Nat} : upd s (27 + 4 * h + 3) v = sH s h 3 v := rfl
theorem ixR0 {r : Nat} (hb : r < 40) : vp_in (nI (59 + 12 * r + 0)) 539 := vp_in_nI (by omega) (by omega)
theorem clR0 {r : Nat} (hb : r < 40) : (nI (59 + 12 * r + 0)).toNatClampNeg = 59 + 12 * r + 0 := cl_n (by omega)
theorem rdR0 {r : Nat} : gq s (59 + 12 * r + 0) = rp s r 0 := rfl
theorem wrR0 {r : Nat} : upd s (59 + 12 * r + 0) v = sR s r 0 v := rfl
theorem ixR1 {r : Nat} (hb : r < 40) : vp_in (nI (59 + 12 * r + 1)) 539 := vp_in_nI (by omega) (by omega)
theorem clR1 {r : Nat} (hb : r < 40) : (nI (59 + 12 * r + 1)).toNatClampNeg = 59 + 12 * r + 1 := cl_n (by omega)
theorem rdR1 {r : Nat} : gq s (59 + 12 * r + 1) = rp s r 1 := rfl
theorem wrR1 {r : Nat} : upd s (59 + 12 * r + 1) v = sR s r 1 v := rfl
theorem ixR2 {r : Nat} (hb : r < 40) : vp_in (nI (59 + 12 * r + 2)) 539 := vp_in_nI (by omega) (by omega)
theorem clR2 {r : Nat} (hb : r < 40) : (nI (59 + 12 * r + 2)).toNatClampNeg = 59 + 12 * r + 2 := cl_n (by omega)
theorem rdR2 {r : Nat} : gq s (59 + 12 * r + 2) = rp s r 2 := rfl
theorem wrR2 {r : Nat} : upd s (59 + 12 * r + 2) v = sR s r 2 v := rfl
theorem ixR3 {r : Nat} (hb : r < 40) : vp_in (nI (59 + 12 * r + 3)) 539 := vp_in_nI (by omega) (by omega)
theorem clR3 {r : Nat} (hb : r < 40) : (nI (59 + 12 * r + 3)).toNatClampNeg = 59 + 12 * r + 3 := cl_n (by omega)
theorem rdR3 {r : Nat} : gq s (59 + 12 * r + 3) = rp s r 3 := rfl
theorem wrR3 {r : Nat} : upd s (59 + 12 * r + 3) v = sR s r 3 v := rfl
theorem ixR4 {r : Nat} (hb : r < 40) : vp_in (nI (59 + 12 * r + 4)) 539 := vp_in_nI (by omega) (by omega)
theorem clR4 {r : Nat} (hb : r < 40) : (nI (59 + 12 * r + 4)).toNatClampNeg = 59 + 12 * r + 4 := cl_n (by omega)
theorem rdR4 {r : Nat} : gq s (59 + 12 * r + 4) = rp s r 4 := rfl
theorem wrR4 {r : Nat} : upd s (59 + 12 * r + 4) v = sR s r 4 v := rfl
theorem ixR5 {r : Nat} (hb : r < 40) : vp_in (nI (59 + 12 * r + 5)) 539 := vp_in_nI (by omega) (by omega)
theorem clR5 {r : Nat} (hb : r < 40) : (nI (59 + 12 * r + 5)).toNatClampNeg = 59 + 12 * r + 5 := cl_n (by omega)
theorem rdR5 {r : Nat} : gq s (59 + 12 * r + 5) = rp s r 5 := rfl
theorem wrR5 {r : Nat} : upd s (59 + 12 * r + 5) v = sR s r 5 v := rfl
theorem ixR6 {r : Nat} (hb : r < 40) : vp_in (nI (59 + 12 * r + 6)) 539 := vp_in_nI (by omega) (by omega)
theorem clR6 {r : Nat} (hb : r < 40) : (nI (59 + 12 * r + 6)).toNatClampNeg = 59 + 12 * r + 6 := cl_n (by omega)
theorem rdR6 {r : Nat} : gq s (59 + 12 * r + 6) = rp s r 6 := rfl
theorem wrR6 {r : Nat} : upd s (59 + 12 * r + 6) v = sR s r 6 v := rfl
theorem ixR7 {r : Nat} (hb : r < 40) : vp_in (nI (59 + 12 * r + 7)) 539 := vp_in_nI (by omega) (by omega)
theorem clR7 {r : Nat} (hb : r < 40) : (nI (59 + 12 * r + 7)).toNatClampNeg = 59 + 12 * r + 7 := cl_n (by omega)
theorem rdR7 {r : Nat} : gq s (59 + 12 * r + 7) = rp s r 7 := rfl
theorem wrR7 {r : Nat} : upd s (59 + 12 * r + 7) v = sR s r 7 v := rfl
theorem ixR8 {r : Nat} (hb : r < 40) : vp_in (nI (59 + 12 * r + 8)) 539 := vp_in_nI (by omega) (by omega)
theorem clR8 {r : Nat} (hb : r < 40) : (nI (59 + 12 * r + 8)).toNatClampNeg = 59 + 12 * r + 8 := cl_n (by omega)
theorem rdR8 {r : Nat} : gq s (59 + 12 * r + 8) = rp s r 8 := rfl
theorem wrR8 {r : Nat} : upd s (59 + 12 * r + 8) v = sR s r 8 v := rfl
theorem ixR9 {r : Nat} (hb : r < 40) : vp_in (nI (59 + 12 * r + 9)) 539 := vp_in_nI (by omega) (by omega)
theorem clR9 {r : Nat} (hb : r < 40) : (nI (59 + 12 * r + 9)).toNatClampNeg = 59 + 12 * r + 9 := cl_n (by omega)
theorem rdR9 {r : Nat} : gq s (59 + 12 * r + 9) = rp s r 9 := rfl
theorem wrR9 {r : Nat} : upd s (59 + 12 * r + 9) v = sR s r 9 v := rfl
theorem ixR10 {r : Nat} (hb : r < 40) : vp_in (nI (59 + 12 * r + 10)) 539 := vp_in_nI (by omega) (by omega)
theorem clR10 {r : Nat} (hb : r < 40) : (nI (59 + 12 * r + 10)).toNatClampNeg = 59 + 12 * r + 10 := cl_n (by omega)
theorem rdR10 {r : Nat} : gq s (59 + 12 * r + 10) = rp s r 10 := rfl
theorem wrR10 {r : Nat} : upd s (59 + 12 * r + 10) v = sR s r 10 v := rfl
theorem ixR11 {r : Nat} (hb : r < 40) : vp_in (nI (59 + 12 * r + 11)) 539 := vp_in_nI (by omega) (by omega)
theorem clR11 {r : Nat} (hb : r < 40) : (nI (59 + 12 * r + 11)).toNatClampNeg = 59 + 12 * r + 11 := cl_n (by omega)
theorem rdR11 {r : Nat} : gq s (59 + 12 * r + 11) = rp s r 11 := rfl
theorem wrR11 {r : Nat} : upd s (59 + 12 * r + 11) v = sR s r 11 v := rfl
theorem clG0 : (0 : Int32).toNatClampNeg = 0 := by decide +kernel
theorem ixG0 : vp_in 0 539 := vp_in_nI (n := 0) (by decide) (by decide)
theorem rdG0 : gq s 0 = gp s 0 := rfl
theorem wrG0 : upd s 0 v = sG s 0 v := rfl
theorem clG1 : (1 : Int32).toNatClampNeg = 1 := by decide +kernel
theorem ixG1 : vp_in 1 539 := vp_in_nI (n := 1) (by decide) (by decide)
theorem rdG1 : gq s 1 = gp s 1 := rfl
theorem wrG1 : upd s 1 v = sG s 1 v := rfl
theorem clG2 : (2 : Int32).toNatClampNeg = 2 := by decide +kernel
theorem ixG2 : vp_in 2 539 := vp_in_nI (n := 2) (by decide) (by decide)
theorem rdG2 : gq s 2 = gp s 2 := rfl
theorem wrG2 : upd s 2 v = sG s 2 v := rfl
theorem clG3 : (3 : Int32).toNatClampNeg = 3 := by decide +kernel
theorem ixG3 : vp_in 3 539 := vp_in_nI (n := 3) (by decide) (by decide)
theorem rdG3 : gq s 3 = gp s 3 := rfl
theorem wrG3 : upd s 3 v = sG s 3 v := rfl
theorem clG4 : (4 : Int32).toNatClampNeg = 4 := by decide +kernel
theorem ixG4 : vp_in 4 539 := vp_in_nI (n := 4) (by decide) (by decide)
theorem rdG4 : gq s 4 = gp s 4 := rfl
theorem wrG4 : upd s 4 v = sG s 4 v := rfl
theorem clG5 : (5 : Int32).toNatClampNeg = 5 := by decide +kernel
theorem ixG5 : vp_in 5 539 := vp_in_nI (n := 5) (by decide) (by decide)
theorem rdG5 : gq s 5 = gp s 5 := rfl
theorem wrG5 : upd s 5 v = sG s 5 v := rfl
theorem clG6 : (6 : Int32).toNatClampNeg = 6 := by decide +kernel
theorem ixG6 : vp_in 6 539 := vp_in_nI (n := 6) (by decide) (by decide)
theorem rdG6 : gq s 6 = gp s 6 := rfl
theorem wrG6 : upd s 6 v = sG s 6 v := rfl
theorem clG7 : (7 : Int32).toNatClampNeg = 7 := by decide +kernel
theorem ixG7 : vp_in 7 539 := vp_in_nI (n := 7) (by decide) (by decide)
theorem rdG7 : gq s 7 = gp s 7 := rfl
theorem wrG7 : upd s 7 v = sG s 7 v := rfl
theorem clG8 : (8 : Int32).toNatClampNeg = 8 := by decide +kernel
theorem ixG8 : vp_in 8 539 := vp_in_nI (n := 8) (by decide) (by decide)
theorem rdG8 : gq s 8 = gp s 8 := rfl
theorem wrG8 : upd s 8 v = sG s 8 v := rfl
end ACC
