/-! the model's methods, one by one: the small ones -/
section MOD1
variable {xl : Nat} {xs : Nat → Int32} {F : pm_F} {I : Nat → Nat → Int32} {o : Nat} {s : St} {M : pm_H}
theorem X5_in_ev {v a b : Int32} : pm_ev tb xl xs mX5_in 0 [some (.int v), some (.int a), some (.int b)] [] M = some (some (.int (if v < a ∨ b < v then 0 else 1)), M) := by
  simp only [eX5_in_0, eX5_in_1, eX5_in_2, eX5_in_5, eX5_in_6, eX5_in_7, eX5_in_10, eX5_in_11, eX5_in_14, eX5_in_15, one0, gk, gr, gj, gw, rv_some, ret_i, ret_n, Option.bind_some, List.cons_append, List.nil_append, z0, z1, zi, zj, i10, i01, row_s, row_row, true_or, or_true, eq_self, not_false_eq_true, not_true_eq_false, if_true, if_false, ite_not, Decidable.not_not, and_true, true_and, or_false, false_or]
  by_cases h1 : v < a <;> by_cases h2 : b < v <;> simp [h1, h2]
theorem X5_lesser_ev {a b : Int32} : pm_ev tb xl xs mX5_lesser 0 [some (.int a), some (.int b)] [] M = some (some (.int (if a < b then a else b)), M) := by
  simp only [eX5_lesser_0, eX5_lesser_1, eX5_lesser_2, eX5_lesser_5, eX5_lesser_6, eX5_lesser_9, eX5_lesser_10, one0, gk, gr, gj, gw, rv_some, ret_i, ret_n, Option.bind_some, List.cons_append, List.nil_append, z0, z1, zi, zj, i10, i01, row_s, row_row, true_or, or_true, eq_self, not_false_eq_true, not_true_eq_false, if_true, if_false, ite_not, Decidable.not_not, and_true, true_and, or_false, false_or]
  by_cases h1 : a < b <;> simp [h1]
theorem at_sum (b c x j : Nat) : nI b + nI c * nI x + nI j = nI (b + c * x + j) := by rw [pk_mul, nI_add, nI_add]
theorem X5_at_ev0 {r : Nat} : pm_ev tb xl xs mX5_at 0 [some (.int (nI r)), some (.int 0)] [] M = some (some (.int (nI (59 + 12 * r + 0))), M) := by
  simp only [eX5_at_0, eX5_at_2, eX5_at_4, eX5_at_5, eX5_at_6, eX5_at_7, eX5_at_8, eX5_at_9, one0, gk, gr, gj, gw, rv_some, ret_i, ret_n, Option.bind_some, List.cons_append, List.nil_append, z0, z1, zi, zj, i10, i01, row_s, row_row, true_or, or_true, eq_self, not_false_eq_true, not_true_eq_false, if_true, if_false, ite_not, Decidable.not_not, and_true, true_and, or_false, false_or]
  rw [← at_sum 59 12 r 0]
  rfl
theorem X5_at_ev1 {r : Nat} : pm_ev tb xl xs mX5_at 0 [some (.int (nI r)), some (.int 1)] [] M = some (some (.int (nI (59 + 12 * r + 1))), M) := by
  simp only [eX5_at_0, eX5_at_2, eX5_at_4, eX5_at_5, eX5_at_6, eX5_at_7, eX5_at_8, eX5_at_9, one0, gk, gr, gj, gw, rv_some, ret_i, ret_n, Option.bind_some, List.cons_append, List.nil_append, z0, z1, zi, zj, i10, i01, row_s, row_row, true_or, or_true, eq_self, not_false_eq_true, not_true_eq_false, if_true, if_false, ite_not, Decidable.not_not, and_true, true_and, or_false, false_or]
  rw [← at_sum 59 12 r 1]
  rfl
theorem X5_at_ev2 {r : Nat} : pm_ev tb xl xs mX5_at 0 [some (.int (nI r)), some (.int 2)] [] M = some (some (.int (nI (59 + 12 * r + 2))), M) := by
  simp only [eX5_at_0, eX5_at_2, eX5_at_4, eX5_at_5, eX5_at_6, eX5_at_7, eX5_at_8, eX5_at_9, one0, gk, gr, gj, gw, rv_some, ret_i, ret_n, Option.bind_some, List.cons_append, List.nil_append, z0, z1, zi, zj, i10, i01, row_s, row_row, true_or, or_true, eq_self, not_false_eq_true, not_true_eq_false, if_true, if_false, ite_not, Decidable.not_not, and_true, true_and, or_false, false_or]
  rw [← at_sum 59 12 r 2]
  rfl
theorem X5_at_ev3 {r : Nat} : pm_ev tb xl xs mX5_at 0 [some (.int (nI r)), some (.int 3)] [] M = some (some (.int (nI (59 + 12 * r + 3))), M) := by
  simp only [eX5_at_0, eX5_at_2, eX5_at_4, eX5_at_5, eX5_at_6, eX5_at_7, eX5_at_8, eX5_at_9, one0, gk, gr, gj, gw, rv_some, ret_i, ret_n, Option.bind_some, List.cons_append, List.nil_append, z0, z1, zi, zj, i10, i01, row_s, row_row, true_or, or_true, eq_self, not_false_eq_true, not_true_eq_false, if_true, if_false, ite_not, Decidable.not_not, and_true, true_and, or_false, false_or]
  rw [← at_sum 59 12 r 3]
  rfl
theorem X5_at_ev4 {r : Nat} : pm_ev tb xl xs mX5_at 0 [some (.int (nI r)), some (.int 4)] [] M = some (some (.int (nI (59 + 12 * r + 4))), M) := by
  simp only [eX5_at_0, eX5_at_2, eX5_at_4, eX5_at_5, eX5_at_6, eX5_at_7, eX5_at_8, eX5_at_9, one0, gk, gr, gj, gw, rv_some, ret_i, ret_n, Option.bind_some, List.cons_append, List.nil_append, z0, z1, zi, zj, i10, i01, row_s, row_row, true_or, or_true, eq_self, not_false_eq_true, not_true_eq_false, if_true, if_false, ite_not, Decidable.not_not, and_true, true_and, or_false, false_or]
  rw [← at_sum 59 12 r 4]
  rfl
theorem X5_at_ev5 {r : Nat} : pm_ev tb xl xs mX5_at 0 [some (.int (nI r)), some (.int 5)] [] M = some (some (.int (nI (59 + 12 * r + 5))), M) := by
  simp only [eX5_at_0, eX5_at_2, eX5_at_4, eX5_at_5, eX5_at_6, eX5_at_7, eX5_at_8, eX5_at_9, one0, gk, gr, gj, gw, rv_some, ret_i, ret_n, Option.bind_some, List.cons_append, List.nil_append, z0, z1, zi, zj, i10, i01, row_s, row_row, true_or, or_true, eq_self, not_false_eq_true, not_true_eq_false, if_true, if_false, ite_not, Decidable.not_not, and_true, true_and, or_false, false_or]
  rw [← at_sum 59 12 r 5]
  rfl
theorem X5_at_ev6 {r : Nat} : pm_ev tb xl xs mX5_at 0 [some (.int (nI r)), some (.int 6)] [] M = some (some (.int (nI (59 + 12 * r + 6))), M) := by
  simp only [eX5_at_0, eX5_at_2, eX5_at_4, eX5_at_5, eX5_at_6, eX5_at_7, eX5_at_8, eX5_at_9, one0, gk, gr, gj, gw, rv_some, ret_i, ret_n, Option.bind_some, List.cons_append, List.nil_append, z0, z1, zi, zj, i10, i01, row_s, row_row, true_or, or_true, eq_self, not_false_eq_true, not_true_eq_false, if_true, if_false, ite_not, Decidable.not_not, and_true, true_and, or_false, false_or]
  rw [← at_sum 59 12 r 6]
  rfl
theorem X5_at_ev7 {r : Nat} : pm_ev tb xl xs mX5_at 0 [some (.int (nI r)), some (.int 7)] [] M = some (some (.int (nI (59 + 12 * r + 7))), M) := by
  simp only [eX5_at_0, eX5_at_2, eX5_at_4, eX5_at_5, eX5_at_6, eX5_at_7, eX5_at_8, eX5_at_9, one0, gk, gr, gj, gw, rv_some, ret_i, ret_n, Option.bind_some, List.cons_append, List.nil_append, z0, z1, zi, zj, i10, i01, row_s, row_row, true_or, or_true, eq_self, not_false_eq_true, not_true_eq_false, if_true, if_false, ite_not, Decidable.not_not, and_true, true_and, or_false, false_or]
  rw [← at_sum 59 12 r 7]
  rfl
theorem X5_at_ev8 {r : Nat} : pm_ev tb xl xs mX5_at 0 [some (.int (nI r)), some (.int 8)] [] M = some (some (.int (nI (59 + 12 * r + 8))), M) := by
  simp only [eX5_at_0, eX5_at_2, eX5_at_4, eX5_at_5, eX5_at_6, eX5_at_7, eX5_at_8, eX5_at_9, one0, gk, gr, gj, gw, rv_some, ret_i, ret_n, Option.bind_some, List.cons_append, List.nil_append, z0, z1, zi, zj, i10, i01, row_s, row_row, true_or, or_true, eq_self, not_false_eq_true, not_true_eq_false, if_true, if_false, ite_not, Decidable.not_not, and_true, true_and, or_false, false_or]
  rw [← at_sum 59 12 r 8]
  rfl
theorem X5_at_ev9 {r : Nat} : pm_ev tb xl xs mX5_at 0 [some (.int (nI r)), some (.int 9)] [] M = some (some (.int (nI (59 + 12 * r + 9))), M) := by
  simp only [eX5_at_0, eX5_at_2, eX5_at_4, eX5_at_5, eX5_at_6, eX5_at_7, eX5_at_8, eX5_at_9, one0, gk, gr, gj, gw, rv_some, ret_i, ret_n, Option.bind_some, List.cons_append, List.nil_append, z0, z1, zi, zj, i10, i01, row_s, row_row, true_or, or_true, eq_self, not_false_eq_true, not_true_eq_false, if_true, if_false, ite_not, Decidable.not_not, and_true, true_and, or_false, false_or]
  rw [← at_sum 59 12 r 9]
  rfl
theorem X5_at_ev10 {r : Nat} : pm_ev tb xl xs mX5_at 0 [some (.int (nI r)), some (.int 10)] [] M = some (some (.int (nI (59 + 12 * r + 10))), M) := by
  simp only [eX5_at_0, eX5_at_2, eX5_at_4, eX5_at_5, eX5_at_6, eX5_at_7, eX5_at_8, eX5_at_9, one0, gk, gr, gj, gw, rv_some, ret_i, ret_n, Option.bind_some, List.cons_append, List.nil_append, z0, z1, zi, zj, i10, i01, row_s, row_row, true_or, or_true, eq_self, not_false_eq_true, not_true_eq_false, if_true, if_false, ite_not, Decidable.not_not, and_true, true_and, or_false, false_or]
  rw [← at_sum 59 12 r 10]
  rfl
theorem X5_at_ev11 {r : Nat} : pm_ev tb xl xs mX5_at 0 [some (.int (nI r)), some (.int 11)] [] M = some (some (.int (nI (59 + 12 * r + 11))), M) := by
  simp only [eX5_at_0, eX5_at_2, eX5_at_4, eX5_at_5, eX5_at_6, eX5_at_7, eX5_at_8, eX5_at_9, one0, gk, gr, gj, gw, rv_some, ret_i, ret_n, Option.bind_some, List.cons_append, List.nil_append, z0, z1, zi, zj, i10, i01, row_s, row_row, true_or, or_true, eq_self, not_false_eq_true, not_true_eq_false, if_true, if_false, ite_not, Decidable.not_not, and_true, true_and, or_false, false_or]
  rw [← at_sum 59 12 r 11]
  rfl
theorem X5_atAsset_ev0 {a : Nat} : pm_ev tb xl xs mX5_atAsset 0 [some (.int (nI a)), some (.int 0)] [] M = some (some (.int (nI (9 + 3 * a + 0))), M) := by
  simp only [eX5_atAsset_0, eX5_atAsset_2, eX5_atAsset_3, eX5_atAsset_4, eX5_atAsset_5, eX5_atAsset_6, eX5_atAsset_7, eX5_atAsset_8, one0, gk, gr, gj, gw, rv_some, ret_i, ret_n, Option.bind_some, List.cons_append, List.nil_append, z0, z1, zi, zj, i10, i01, row_s, row_row, true_or, or_true, eq_self, not_false_eq_true, not_true_eq_false, if_true, if_false, ite_not, Decidable.not_not, and_true, true_and, or_false, false_or]
  rw [← at_sum 9 3 a 0]
  rfl
theorem X5_atAsset_ev1 {a : Nat} : pm_ev tb xl xs mX5_atAsset 0 [some (.int (nI a)), some (.int 1)] [] M = some (some (.int (nI (9 + 3 * a + 1))), M) := by
  simp only [eX5_atAsset_0, eX5_atAsset_2, eX5_atAsset_3, eX5_atAsset_4, eX5_atAsset_5, eX5_atAsset_6, eX5_atAsset_7, eX5_atAsset_8, one0, gk, gr, gj, gw, rv_some, ret_i, ret_n, Option.bind_some, List.cons_append, List.nil_append, z0, z1, zi, zj, i10, i01, row_s, row_row, true_or, or_true, eq_self, not_false_eq_true, not_true_eq_false, if_true, if_false, ite_not, Decidable.not_not, and_true, true_and, or_false, false_or]
  rw [← at_sum 9 3 a 1]
  rfl
theorem X5_atAsset_ev2 {a : Nat} : pm_ev tb xl xs mX5_atAsset 0 [some (.int (nI a)), some (.int 2)] [] M = some (some (.int (nI (9 + 3 * a + 2))), M) := by
  simp only [eX5_atAsset_0, eX5_atAsset_2, eX5_atAsset_3, eX5_atAsset_4, eX5_atAsset_5, eX5_atAsset_6, eX5_atAsset_7, eX5_atAsset_8, one0, gk, gr, gj, gw, rv_some, ret_i, ret_n, Option.bind_some, List.cons_append, List.nil_append, z0, z1, zi, zj, i10, i01, row_s, row_row, true_or, or_true, eq_self, not_false_eq_true, not_true_eq_false, if_true, if_false, ite_not, Decidable.not_not, and_true, true_and, or_false, false_or]
  rw [← at_sum 9 3 a 2]
  rfl
theorem X5_atHunter_ev0 {h : Nat} : pm_ev tb xl xs mX5_atHunter 0 [some (.int (nI h)), some (.int 0)] [] M = some (some (.int (nI (27 + 4 * h + 0))), M) := by
  simp only [eX5_atHunter_0, eX5_atHunter_2, eX5_atHunter_3, eX5_atHunter_4, eX5_atHunter_5, eX5_atHunter_6, eX5_atHunter_7, eX5_atHunter_8, one0, gk, gr, gj, gw, rv_some, ret_i, ret_n, Option.bind_some, List.cons_append, List.nil_append, z0, z1, zi, zj, i10, i01, row_s, row_row, true_or, or_true, eq_self, not_false_eq_true, not_true_eq_false, if_true, if_false, ite_not, Decidable.not_not, and_true, true_and, or_false, false_or]
  rw [← at_sum 27 4 h 0]
  rfl
theorem X5_atHunter_ev1 {h : Nat} : pm_ev tb xl xs mX5_atHunter 0 [some (.int (nI h)), some (.int 1)] [] M = some (some (.int (nI (27 + 4 * h + 1))), M) := by
  simp only [eX5_atHunter_0, eX5_atHunter_2, eX5_atHunter_3, eX5_atHunter_4, eX5_atHunter_5, eX5_atHunter_6, eX5_atHunter_7, eX5_atHunter_8, one0, gk, gr, gj, gw, rv_some, ret_i, ret_n, Option.bind_some, List.cons_append, List.nil_append, z0, z1, zi, zj, i10, i01, row_s, row_row, true_or, or_true, eq_self, not_false_eq_true, not_true_eq_false, if_true, if_false, ite_not, Decidable.not_not, and_true, true_and, or_false, false_or]
  rw [← at_sum 27 4 h 1]
  rfl
theorem X5_atHunter_ev2 {h : Nat} : pm_ev tb xl xs mX5_atHunter 0 [some (.int (nI h)), some (.int 2)] [] M = some (some (.int (nI (27 + 4 * h + 2))), M) := by
  simp only [eX5_atHunter_0, eX5_atHunter_2, eX5_atHunter_3, eX5_atHunter_4, eX5_atHunter_5, eX5_atHunter_6, eX5_atHunter_7, eX5_atHunter_8, one0, gk, gr, gj, gw, rv_some, ret_i, ret_n, Option.bind_some, List.cons_append, List.nil_append, z0, z1, zi, zj, i10, i01, row_s, row_row, true_or, or_true, eq_self, not_false_eq_true, not_true_eq_false, if_true, if_false, ite_not, Decidable.not_not, and_true, true_and, or_false, false_or]
  rw [← at_sum 27 4 h 2]
  rfl
theorem X5_atHunter_ev3 {h : Nat} : pm_ev tb xl xs mX5_atHunter 0 [some (.int (nI h)), some (.int 3)] [] M = some (some (.int (nI (27 + 4 * h + 3))), M) := by
  simp only [eX5_atHunter_0, eX5_atHunter_2, eX5_atHunter_3, eX5_atHunter_4, eX5_atHunter_5, eX5_atHunter_6, eX5_atHunter_7, eX5_atHunter_8, one0, gk, gr, gj, gw, rv_some, ret_i, ret_n, Option.bind_some, List.cons_append, List.nil_append, z0, z1, zi, zj, i10, i01, row_s, row_row, true_or, or_true, eq_self, not_false_eq_true, not_true_eq_false, if_true, if_false, ite_not, Decidable.not_not, and_true, true_and, or_false, false_or]
  rw [← at_sum 27 4 h 3]
  rfl
theorem X5_of_ev0 (hM : LM F o) {r : Nat} (hr : r < 40) : pm_ev tb xl xs mX5_of 0 [some (.ref o), some (.int (nI r)), some (.int 0)] [] (pm_G F (row I (o + 1) s)) = some (some (.int (rp s r 0)), pm_G F (row I (o + 1) s)) := by
  simp only [eX5_of_0, eX5_of_1, eX5_of_4, eX5_of_5, eX5_of_6, eX5_of_9, eX5_of_10, one0, gk, gr, gj, gw, rv_some, ret_i, ret_n, Option.bind_some, List.cons_append, List.nil_append, z0, z1, zi, zj, i10, i01, row_s, row_row, true_or, or_true, eq_self, not_false_eq_true, not_true_eq_false, if_true, if_false, ite_not, Decidable.not_not, and_true, true_and, or_false, false_or, lm0 hM, lm1 hM, lm5 hM, X5_at_ev0, ixR0 hr, clR0 hr, rdR0, not_false_eq_true]
theorem X5_of_ev1 (hM : LM F o) {r : Nat} (hr : r < 40) : pm_ev tb xl xs mX5_of 0 [some (.ref o), some (.int (nI r)), some (.int 1)] [] (pm_G F (row I (o + 1) s)) = some (some (.int (rp s r 1)), pm_G F (row I (o + 1) s)) := by
  simp only [eX5_of_0, eX5_of_1, eX5_of_4, eX5_of_5, eX5_of_6, eX5_of_9, eX5_of_10, one0, gk, gr, gj, gw, rv_some, ret_i, ret_n, Option.bind_some, List.cons_append, List.nil_append, z0, z1, zi, zj, i10, i01, row_s, row_row, true_or, or_true, eq_self, not_false_eq_true, not_true_eq_false, if_true, if_false, ite_not, Decidable.not_not, and_true, true_and, or_false, false_or, lm0 hM, lm1 hM, lm5 hM, X5_at_ev1, ixR1 hr, clR1 hr, rdR1, not_false_eq_true]
theorem X5_of_ev2 (hM : LM F o) {r : Nat} (hr : r < 40) : pm_ev tb xl xs mX5_of 0 [some (.ref o), some (.int (nI r)), some (.int 2)] [] (pm_G F (row I (o + 1) s)) = some (some (.int (rp s r 2)), pm_G F (row I (o + 1) s)) := by
  simp only [eX5_of_0, eX5_of_1, eX5_of_4, eX5_of_5, eX5_of_6, eX5_of_9, eX5_of_10, one0, gk, gr, gj, gw, rv_some, ret_i, ret_n, Option.bind_some, List.cons_append, List.nil_append, z0, z1, zi, zj, i10, i01, row_s, row_row, true_or, or_true, eq_self, not_false_eq_true, not_true_eq_false, if_true, if_false, ite_not, Decidable.not_not, and_true, true_and, or_false, false_or, lm0 hM, lm1 hM, lm5 hM, X5_at_ev2, ixR2 hr, clR2 hr, rdR2, not_false_eq_true]
theorem X5_of_ev3 (hM : LM F o) {r : Nat} (hr : r < 40) : pm_ev tb xl xs mX5_of 0 [some (.ref o), some (.int (nI r)), some (.int 3)] [] (pm_G F (row I (o + 1) s)) = some (some (.int (rp s r 3)), pm_G F (row I (o + 1) s)) := by
  simp only [eX5_of_0, eX5_of_1, eX5_of_4, eX5_of_5, eX5_of_6, eX5_of_9, eX5_of_10, one0, gk, gr, gj, gw, rv_some, ret_i, ret_n, Option.bind_some, List.cons_append, List.nil_append, z0, z1, zi, zj, i10, i01, row_s, row_row, true_or, or_true, eq_self, not_false_eq_true, not_true_eq_false, if_true, if_false, ite_not, Decidable.not_not, and_true, true_and, or_false, false_or, lm0 hM, lm1 hM, lm5 hM, X5_at_ev3, ixR3 hr, clR3 hr, rdR3, not_false_eq_true]
theorem X5_of_ev4 (hM : LM F o) {r : Nat} (hr : r < 40) : pm_ev tb xl xs mX5_of 0 [some (.ref o), some (.int (nI r)), some (.int 4)] [] (pm_G F (row I (o + 1) s)) = some (some (.int (rp s r 4)), pm_G F (row I (o + 1) s)) := by
  simp only [eX5_of_0, eX5_of_1, eX5_of_4, eX5_of_5, eX5_of_6, eX5_of_9, eX5_of_10, one0, gk, gr, gj, gw, rv_some, ret_i, ret_n, Option.bind_some, List.cons_append, List.nil_append, z0, z1, zi, zj, i10, i01, row_s, row_row, true_or, or_true, eq_self, not_false_eq_true, not_true_eq_false, if_true, if_false, ite_not, Decidable.not_not, and_true, true_and, or_false, false_or, lm0 hM, lm1 hM, lm5 hM, X5_at_ev4, ixR4 hr, clR4 hr, rdR4, not_false_eq_true]
theorem X5_of_ev5 (hM : LM F o) {r : Nat} (hr : r < 40) : pm_ev tb xl xs mX5_of 0 [some (.ref o), some (.int (nI r)), some (.int 5)] [] (pm_G F (row I (o + 1) s)) = some (some (.int (rp s r 5)), pm_G F (row I (o + 1) s)) := by
  simp only [eX5_of_0, eX5_of_1, eX5_of_4, eX5_of_5, eX5_of_6, eX5_of_9, eX5_of_10, one0, gk, gr, gj, gw, rv_some, ret_i, ret_n, Option.bind_some, List.cons_append, List.nil_append, z0, z1, zi, zj, i10, i01, row_s, row_row, true_or, or_true, eq_self, not_false_eq_true, not_true_eq_false, if_true, if_false, ite_not, Decidable.not_not, and_true, true_and, or_false, false_or, lm0 hM, lm1 hM, lm5 hM, X5_at_ev5, ixR5 hr, clR5 hr, rdR5, not_false_eq_true]
theorem X5_of_ev6 (hM : LM F o) {r : Nat} (hr : r < 40) : pm_ev tb xl xs mX5_of 0 [some (.ref o), some (.int (nI r)), some (.int 6)] [] (pm_G F (row I (o + 1) s)) = some (some (.int (rp s r 6)), pm_G F (row I (o + 1) s)) := by
  simp only [eX5_of_0, eX5_of_1, eX5_of_4, eX5_of_5, eX5_of_6, eX5_of_9, eX5_of_10, one0, gk, gr, gj, gw, rv_some, ret_i, ret_n, Option.bind_some, List.cons_append, List.nil_append, z0, z1, zi, zj, i10, i01, row_s, row_row, true_or, or_true, eq_self, not_false_eq_true, not_true_eq_false, if_true, if_false, ite_not, Decidable.not_not, and_true, true_and, or_false, false_or, lm0 hM, lm1 hM, lm5 hM, X5_at_ev6, ixR6 hr, clR6 hr, rdR6, not_false_eq_true]
theorem X5_of_ev7 (hM : LM F o) {r : Nat} (hr : r < 40) : pm_ev tb xl xs mX5_of 0 [some (.ref o), some (.int (nI r)), some (.int 7)] [] (pm_G F (row I (o + 1) s)) = some (some (.int (rp s r 7)), pm_G F (row I (o + 1) s)) := by
  simp only [eX5_of_0, eX5_of_1, eX5_of_4, eX5_of_5, eX5_of_6, eX5_of_9, eX5_of_10, one0, gk, gr, gj, gw, rv_some, ret_i, ret_n, Option.bind_some, List.cons_append, List.nil_append, z0, z1, zi, zj, i10, i01, row_s, row_row, true_or, or_true, eq_self, not_false_eq_true, not_true_eq_false, if_true, if_false, ite_not, Decidable.not_not, and_true, true_and, or_false, false_or, lm0 hM, lm1 hM, lm5 hM, X5_at_ev7, ixR7 hr, clR7 hr, rdR7, not_false_eq_true]
theorem X5_of_ev8 (hM : LM F o) {r : Nat} (hr : r < 40) : pm_ev tb xl xs mX5_of 0 [some (.ref o), some (.int (nI r)), some (.int 8)] [] (pm_G F (row I (o + 1) s)) = some (some (.int (rp s r 8)), pm_G F (row I (o + 1) s)) := by
  simp only [eX5_of_0, eX5_of_1, eX5_of_4, eX5_of_5, eX5_of_6, eX5_of_9, eX5_of_10, one0, gk, gr, gj, gw, rv_some, ret_i, ret_n, Option.bind_some, List.cons_append, List.nil_append, z0, z1, zi, zj, i10, i01, row_s, row_row, true_or, or_true, eq_self, not_false_eq_true, not_true_eq_false, if_true, if_false, ite_not, Decidable.not_not, and_true, true_and, or_false, false_or, lm0 hM, lm1 hM, lm5 hM, X5_at_ev8, ixR8 hr, clR8 hr, rdR8, not_false_eq_true]
theorem X5_of_ev9 (hM : LM F o) {r : Nat} (hr : r < 40) : pm_ev tb xl xs mX5_of 0 [some (.ref o), some (.int (nI r)), some (.int 9)] [] (pm_G F (row I (o + 1) s)) = some (some (.int (rp s r 9)), pm_G F (row I (o + 1) s)) := by
  simp only [eX5_of_0, eX5_of_1, eX5_of_4, eX5_of_5, eX5_of_6, eX5_of_9, eX5_of_10, one0, gk, gr, gj, gw, rv_some, ret_i, ret_n, Option.bind_some, List.cons_append, List.nil_append, z0, z1, zi, zj, i10, i01, row_s, row_row, true_or, or_true, eq_self, not_false_eq_true, not_true_eq_false, if_true, if_false, ite_not, Decidable.not_not, and_true, true_and, or_false, false_or, lm0 hM, lm1 hM, lm5 hM, X5_at_ev9, ixR9 hr, clR9 hr, rdR9, not_false_eq_true]
theorem X5_of_ev10 (hM : LM F o) {r : Nat} (hr : r < 40) : pm_ev tb xl xs mX5_of 0 [some (.ref o), some (.int (nI r)), some (.int 10)] [] (pm_G F (row I (o + 1) s)) = some (some (.int (rp s r 10)), pm_G F (row I (o + 1) s)) := by
  simp only [eX5_of_0, eX5_of_1, eX5_of_4, eX5_of_5, eX5_of_6, eX5_of_9, eX5_of_10, one0, gk, gr, gj, gw, rv_some, ret_i, ret_n, Option.bind_some, List.cons_append, List.nil_append, z0, z1, zi, zj, i10, i01, row_s, row_row, true_or, or_true, eq_self, not_false_eq_true, not_true_eq_false, if_true, if_false, ite_not, Decidable.not_not, and_true, true_and, or_false, false_or, lm0 hM, lm1 hM, lm5 hM, X5_at_ev10, ixR10 hr, clR10 hr, rdR10, not_false_eq_true]
theorem X5_of_ev11 (hM : LM F o) {r : Nat} (hr : r < 40) : pm_ev tb xl xs mX5_of 0 [some (.ref o), some (.int (nI r)), some (.int 11)] [] (pm_G F (row I (o + 1) s)) = some (some (.int (rp s r 11)), pm_G F (row I (o + 1) s)) := by
  simp only [eX5_of_0, eX5_of_1, eX5_of_4, eX5_of_5, eX5_of_6, eX5_of_9, eX5_of_10, one0, gk, gr, gj, gw, rv_some, ret_i, ret_n, Option.bind_some, List.cons_append, List.nil_append, z0, z1, zi, zj, i10, i01, row_s, row_row, true_or, or_true, eq_self, not_false_eq_true, not_true_eq_false, if_true, if_false, ite_not, Decidable.not_not, and_true, true_and, or_false, false_or, lm0 hM, lm1 hM, lm5 hM, X5_at_ev11, ixR11 hr, clR11 hr, rdR11, not_false_eq_true]
theorem rng_n {n : Nat} (hn : n ≤ 1000) (v : Int32) : (v < 0 ∨ nI n - 1 < v) ↔ out v n := by
  cases n with
  | zero =>
    constructor
    · intro _
      exact Or.inr (Nat.zero_le _)
    · intro _
      by_cases h : v < 0
      · exact Or.inl h
      · refine Or.inr ?_
        obtain ⟨j, hj, rfl⟩ := nI_of h
        have h2 := nI_pos' hj
        rw [Int32.lt_iff_toInt_lt]
        rw [nI_toInt hj]
        show (nI 0 - 1).toInt < _
        have : (nI 0 - 1).toInt = -1 := by decide
        omega
  | succ n =>
    rw [nI_pred]
    constructor
    · rintro (h | h)
      · exact Or.inl h
      · by_cases h0 : v < 0
        · exact Or.inl h0
        · obtain ⟨j, hj, rfl⟩ := nI_of h0
          rw [nI_ltI (by omega) hj] at h
          refine Or.inr ?_
          rw [nI_clamp hj]
          exact h
    · rintro (h | h)
      · exact Or.inl h
      · by_cases h0 : v < 0
        · exact Or.inl h0
        · obtain ⟨j, hj, rfl⟩ := nI_of h0
          rw [nI_clamp hj] at h
          refine Or.inr ?_
          rw [nI_ltI (by omega) hj]
          omega
theorem X5_isAsset_ev (hM : LM F o) {n : Nat} (hn : gp s 4 = nI n) (hn2 : n ≤ 1000) {v : Int32} : pm_ev tb xl xs mX5_isAsset 0 [some (.ref o), some (.int v)] [] (pm_G F (row I (o + 1) s)) = some (some (.int (if out v n then 0 else 1)), pm_G F (row I (o + 1) s)) := by
  simp only [eX5_isAsset_0, eX5_isAsset_1, eX5_isAsset_2, eX5_isAsset_3, eX5_isAsset_6, eX5_isAsset_7, eX5_isAsset_8, eX5_isAsset_9, eX5_isAsset_10, eX5_isAsset_13, one0, gk, gr, gj, gw, rv_some, ret_i, ret_n, Option.bind_some, List.cons_append, List.nil_append, z0, z1, zi, zj, i10, i01, row_s, row_row, true_or, or_true, eq_self, not_false_eq_true, not_true_eq_false, if_true, if_false, ite_not, Decidable.not_not, and_true, true_and, or_false, false_or, lm0 hM, lm1 hM, lm5 hM, ixG0, ixG1, ixG2, ixG3, ixG4, ixG5, ixG6, ixG7, ixG8, clG0, clG1, clG2, clG3, clG4, clG5, clG6, clG7, clG8, rdG0, rdG1, rdG2, rdG3, rdG4, rdG5, rdG6, rdG7, rdG8, wrG0, wrG1, wrG2, wrG3, wrG4, wrG5, wrG6, wrG7, wrG8, X5_in_ev, hn, not_false_eq_true, rng_n hn2]
theorem X5_isHunter_ev (hM : LM F o) {n : Nat} (hn : gp s 5 = nI n) (hn2 : n ≤ 1000) {v : Int32} : pm_ev tb xl xs mX5_isHunter 0 [some (.ref o), some (.int v)] [] (pm_G F (row I (o + 1) s)) = some (some (.int (if out v n then 0 else 1)), pm_G F (row I (o + 1) s)) := by
  simp only [eX5_isHunter_0, eX5_isHunter_1, eX5_isHunter_2, eX5_isHunter_3, eX5_isHunter_6, eX5_isHunter_7, eX5_isHunter_8, eX5_isHunter_9, eX5_isHunter_10, eX5_isHunter_13, one0, gk, gr, gj, gw, rv_some, ret_i, ret_n, Option.bind_some, List.cons_append, List.nil_append, z0, z1, zi, zj, i10, i01, row_s, row_row, true_or, or_true, eq_self, not_false_eq_true, not_true_eq_false, if_true, if_false, ite_not, Decidable.not_not, and_true, true_and, or_false, false_or, lm0 hM, lm1 hM, lm5 hM, ixG0, ixG1, ixG2, ixG3, ixG4, ixG5, ixG6, ixG7, ixG8, clG0, clG1, clG2, clG3, clG4, clG5, clG6, clG7, clG8, rdG0, rdG1, rdG2, rdG3, rdG4, rdG5, rdG6, rdG7, rdG8, wrG0, wrG1, wrG2, wrG3, wrG4, wrG5, wrG6, wrG7, wrG8, X5_in_ev, hn, not_false_eq_true, rng_n hn2]
theorem X5_isReport_ev (hM : LM F o) {n : Nat} (hn : gp s 6 = nI n) (hn2 : n ≤ 1000) {v : Int32} : pm_ev tb xl xs mX5_isReport 0 [some (.ref o), some (.int v)] [] (pm_G F (row I (o + 1) s)) = some (some (.int (if out v n then 0 else 1)), pm_G F (row I (o + 1) s)) := by
  simp only [eX5_isReport_0, eX5_isReport_1, eX5_isReport_2, eX5_isReport_3, eX5_isReport_6, eX5_isReport_8, eX5_isReport_9, eX5_isReport_10, eX5_isReport_11, eX5_isReport_14, one0, gk, gr, gj, gw, rv_some, ret_i, ret_n, Option.bind_some, List.cons_append, List.nil_append, z0, z1, zi, zj, i10, i01, row_s, row_row, true_or, or_true, eq_self, not_false_eq_true, not_true_eq_false, if_true, if_false, ite_not, Decidable.not_not, and_true, true_and, or_false, false_or, lm0 hM, lm1 hM, lm5 hM, ixG0, ixG1, ixG2, ixG3, ixG4, ixG5, ixG6, ixG7, ixG8, clG0, clG1, clG2, clG3, clG4, clG5, clG6, clG7, clG8, rdG0, rdG1, rdG2, rdG3, rdG4, rdG5, rdG6, rdG7, rdG8, wrG0, wrG1, wrG2, wrG3, wrG4, wrG5, wrG6, wrG7, wrG8, X5_in_ev, hn, not_false_eq_true, rng_n hn2]
theorem X5_isDue_ev (hM : LM F o) {r : Nat} (hr : r < 40) : pm_ev tb xl xs mX5_isDue 0 [some (.ref o), some (.int (nI r))] [] (pm_G F (row I (o + 1) s)) = some (some (.int (if isDue s r then 1 else 0)), pm_G F (row I (o + 1) s)) := by
  simp only [eX5_isDue_0, eX5_isDue_1, eX5_isDue_2, eX5_isDue_3, eX5_isDue_6, eX5_isDue_7, eX5_isDue_10, eX5_isDue_11, eX5_isDue_12, eX5_isDue_13, eX5_isDue_16, eX5_isDue_17, eX5_isDue_20, eX5_isDue_21, eX5_isDue_24, eX5_isDue_25, one0, gk, gr, gj, gw, rv_some, ret_i, ret_n, Option.bind_some, List.cons_append, List.nil_append, z0, z1, zi, zj, i10, i01, row_s, row_row, true_or, or_true, eq_self, not_false_eq_true, not_true_eq_false, if_true, if_false, ite_not, Decidable.not_not, and_true, true_and, or_false, false_or, lm0 hM, lm1 hM, lm5 hM, X5_of_ev0 hM, X5_of_ev1 hM, X5_of_ev2 hM, X5_of_ev3 hM, X5_of_ev4 hM, X5_of_ev5 hM, X5_of_ev6 hM, X5_of_ev7 hM, X5_of_ev8 hM, X5_of_ev9 hM, X5_of_ev10 hM, X5_of_ev11 hM, hr]
  by_cases h1 : rp s r 3 = 1 <;> by_cases h2 : rp s r 3 = 2 <;> simp [h1, h2]
theorem X5_isOpen_ev (hM : LM F o) {r : Nat} (hr : r < 40) : pm_ev tb xl xs mX5_isOpen 0 [some (.ref o), some (.int (nI r))] [] (pm_G F (row I (o + 1) s)) = some (some (.int (if rp s r 6 = 1 then 1 else 0)), pm_G F (row I (o + 1) s)) := by
  simp only [eX5_isOpen_0, eX5_isOpen_1, eX5_isOpen_2, eX5_isOpen_4, eX5_isOpen_7, eX5_isOpen_8, eX5_isOpen_11, eX5_isOpen_12, eX5_isOpen_15, eX5_isOpen_16, one0, gk, gr, gj, gw, rv_some, ret_i, ret_n, Option.bind_some, List.cons_append, List.nil_append, z0, z1, zi, zj, i10, i01, row_s, row_row, true_or, or_true, eq_self, not_false_eq_true, not_true_eq_false, if_true, if_false, ite_not, Decidable.not_not, and_true, true_and, or_false, false_or, lm0 hM, lm1 hM, lm5 hM, X5_of_ev0 hM, X5_of_ev1 hM, X5_of_ev2 hM, X5_of_ev3 hM, X5_of_ev4 hM, X5_of_ev5 hM, X5_of_ev6 hM, X5_of_ev7 hM, X5_of_ev8 hM, X5_of_ev9 hM, X5_of_ev10 hM, X5_of_ev11 hM, hr]
  by_cases h1 : rp s r 6 = 1 <;> simp [h1]
theorem d100 : ¬ (100 : Int32) = 0 := by decide
theorem d10 : ¬ (10 : Int32) = 0 := by decide
theorem d90 : ¬ (90 : Int32) = 0 := by decide
theorem X5_priceBy_ev (hM : LM F o) {r : Nat} (hr : r < 40) {a : Nat} (ha : a < 6) (hra : rp s r 1 = nI a) {v : Int32} : pm_ev tb xl xs mX5_priceBy 0 [some (.ref o), some (.int (nI r)), some (.int v)] [] (pm_G F (row I (o + 1) s)) = some (some (.int (prS s r v)), pm_G F (row I (o + 1) s)) := by
  simp only [eX5_priceBy_0, eX5_priceBy_1, eX5_priceBy_2, eX5_priceBy_3, eX5_priceBy_4, eX5_priceBy_7, eX5_priceBy_8, eX5_priceBy_9, eX5_priceBy_10, eX5_priceBy_13, eX5_priceBy_14, eX5_priceBy_17, eX5_priceBy_18, eX5_priceBy_19, eX5_priceBy_21, eX5_priceBy_22, eX5_priceBy_23, eX5_priceBy_26, eX5_priceBy_27, eX5_priceBy_28, eX5_priceBy_29, eX5_priceBy_31, eX5_priceBy_32, one0, gk, gr, gj, gw, rv_some, ret_i, ret_n, Option.bind_some, List.cons_append, List.nil_append, z0, z1, zi, zj, i10, i01, row_s, row_row, true_or, or_true, eq_self, not_false_eq_true, not_true_eq_false, if_true, if_false, ite_not, Decidable.not_not, and_true, true_and, or_false, false_or, lm0 hM, lm1 hM, lm5 hM, ixG0, ixG1, ixG2, ixG3, ixG4, ixG5, ixG6, ixG7, ixG8, clG0, clG1, clG2, clG3, clG4, clG5, clG6, clG7, clG8, rdG0, rdG1, rdG2, rdG3, rdG4, rdG5, rdG6, rdG7, rdG8, wrG0, wrG1, wrG2, wrG3, wrG4, wrG5, wrG6, wrG7, wrG8, X5_of_ev0 hM, X5_of_ev1 hM, X5_of_ev2 hM, X5_of_ev3 hM, X5_of_ev4 hM, X5_of_ev5 hM, X5_of_ev6 hM, X5_of_ev7 hM, X5_of_ev8 hM, X5_of_ev9 hM, X5_of_ev10 hM, X5_of_ev11 hM, X5_atAsset_ev0, X5_atAsset_ev1, X5_atAsset_ev2, ixA0 ha, clA0 ha, rdA0, wrA0, ixA1 ha, clA1 ha, rdA1, wrA1, ixA2 ha, clA2 ha, rdA2, wrA2, hr, hra, d100, not_false_eq_true, prS, tn_n (i := a) (by omega)]
theorem X5_price_ev (hM : LM F o) {r : Nat} (hr : r < 40) {a : Nat} (ha : a < 6) (hra : rp s r 1 = nI a) : pm_ev tb xl xs mX5_price 0 [some (.ref o), some (.int (nI r))] [] (pm_G F (row I (o + 1) s)) = some (some (.int (price s r)), pm_G F (row I (o + 1) s)) := by
  simp only [eX5_price_0, eX5_price_1, eX5_price_2, eX5_price_3, eX5_price_4, eX5_price_5, eX5_price_8, eX5_price_11, one0, gk, gr, gj, gw, rv_some, ret_i, ret_n, Option.bind_some, List.cons_append, List.nil_append, z0, z1, zi, zj, i10, i01, row_s, row_row, true_or, or_true, eq_self, not_false_eq_true, not_true_eq_false, if_true, if_false, ite_not, Decidable.not_not, and_true, true_and, or_false, false_or, lm0 hM, lm1 hM, lm5 hM, X5_of_ev0 hM, X5_of_ev1 hM, X5_of_ev2 hM, X5_of_ev3 hM, X5_of_ev4 hM, X5_of_ev5 hM, X5_of_ev6 hM, X5_of_ev7 hM, X5_of_ev8 hM, X5_of_ev9 hM, X5_of_ev10 hM, X5_of_ev11 hM, hr, X5_priceBy_ev hM hr ha hra, price]
theorem X5_gives_ev (hM : LM F o) {h : Nat} (hh : h < 8) {v : Int32} : pm_ev tb xl xs mX5_gives 0 [some (.ref o), some (.int (nI h)), some (.int v)] [] (pm_G F (row I (o + 1) s)) = some (none, pm_G F (row I (o + 1) (giveS s h v))) := by
  simp only [eX5_gives_0, eX5_gives_1, eX5_gives_4, eX5_gives_5, eX5_gives_6, eX5_gives_9, eX5_gives_10, eX5_gives_11, eX5_gives_12, eX5_gives_13, eX5_gives_14, one0, gk, gr, gj, gw, rv_some, ret_i, ret_n, Option.bind_some, List.cons_append, List.nil_append, z0, z1, zi, zj, i10, i01, row_s, row_row, true_or, or_true, eq_self, not_false_eq_true, not_true_eq_false, if_true, if_false, ite_not, Decidable.not_not, and_true, true_and, or_false, false_or, lm0 hM, lm1 hM, lm5 hM, X5_atHunter_ev0, X5_atHunter_ev1, X5_atHunter_ev2, X5_atHunter_ev3, ixH0 hh, clH0 hh, rdH0, wrH0, ixH1 hh, clH1 hh, rdH1, wrH1, ixH2 hh, clH2 hh, rdH2, wrH2, ixH3 hh, clH3 hh, rdH3, wrH3, not_false_eq_true, giveS]
end MOD1
