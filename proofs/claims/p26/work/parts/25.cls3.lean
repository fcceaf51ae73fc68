/-! the class: copies, new rows, appeals, retests -/
/-- masks of hunters -/
def bcF (v : Int32) : Int32 :=
  let a := v - ((v.toUInt32 >>> ((1 : Int32).toUInt32 &&& Int32.toUInt32 31)).toInt32 &&& 1431655765)
  let b := (a &&& 858993459) + ((a.toUInt32 >>> ((2 : Int32).toUInt32 &&& Int32.toUInt32 31)).toInt32 &&& 858993459)
  let c := b + (b.toUInt32 >>> ((4 : Int32).toUInt32 &&& Int32.toUInt32 31)).toInt32 &&& 252645135
  let d := c + (c.toUInt32 >>> ((8 : Int32).toUInt32 &&& Int32.toUInt32 31)).toInt32
  d + (d.toUInt32 >>> ((16 : Int32).toUInt32 &&& Int32.toUInt32 31)).toInt32 &&& 63
set_option maxRecDepth 100000 in
theorem bc_dec : ∀ n, n < 256 → bcF (nI n) = onS (nI n) := by decide +kernel
set_option maxRecDepth 100000 in
theorem bit_dec : ∀ n, n < 256 → ∀ k, k < 8 → ((nI n &&& ((1 : Int32) <<< (nI k &&& 31))) = 0 ↔ ¬ (nI n >>> (nI k &&& 31)) &&& 1 = 1) := by decide +kernel
set_option maxRecDepth 100000 in
theorem or_dec : ∀ n, n < 256 → ∀ k, k < 8 → ¬ ((nI n ||| ((1 : Int32) <<< (nI k &&& 31))) < 0 ∨ 256 ≤ (nI n ||| ((1 : Int32) <<< (nI k &&& 31))).toNatClampNeg) := by decide +kernel
theorem bc_on {v : Int32} (h : vp_in v 256) : bcF v = onS v := by
  obtain ⟨n, hn, rfl, -⟩ := vin h (by omega)
  exact bc_dec n hn
theorem bit_on {v : Int32} (h : vp_in v 256) {k : Nat} (hk : k < 8) : ((v &&& ((1 : Int32) <<< (nI k &&& 31))) = 0) = ¬ bitS v k := by
  obtain ⟨n, hn, rfl, -⟩ := vin h (by omega)
  exact propext (bit_dec n hn k hk)
theorem or_on {v : Int32} (h : vp_in v 256) {k : Nat} (hk : k < 8) : vp_in (v ||| ((1 : Int32) <<< (nI k &&& 31))) 256 := by
  obtain ⟨n, hn, rfl, -⟩ := vin h (by omega)
  exact or_dec n hn k hk
theorem nI_or (a b : Nat) : nI a ||| nI b = nI (a ||| b) := by
  unfold nI
  apply Int32.toBitVec_inj.mp
  show BitVec.ofNat 32 a ||| BitVec.ofNat 32 b = BitVec.ofNat 32 (a ||| b)
  rw [BitVec.ofNat_or]
theorem or_in {v w : Int32} (h : vp_in v 256) (h2 : vp_in w 256) : vp_in (v ||| w) 256 := by
  obtain ⟨n, hn, rfl, -⟩ := vin h (by omega)
  obtain ⟨m, hm, rfl, -⟩ := vin h2 (by omega)
  rw [nI_or]
  exact vp_in_nI (Nat.or_lt_two_pow (n := 8) hn hm) (by omega)
section CLS3
variable {xl : Nat} {xs : Nat → Int32} {F : pm_F} {I : Nat → Nat → Int32} {o o' : Nat} {s : St} {nA nH nR : Nat}
theorem J6_bitCount_ev {M : pm_H} {v : Int32} : pm_ev tb xl xs mJ6_bitCount_0f7a4 0 [some (.int v)] [] M = some (some (.int (bcF v)), M) := by
  simp only [eJ6_bitCount_0f7a4_0, eJ6_bitCount_0f7a4_1, eJ6_bitCount_0f7a4_2, eJ6_bitCount_0f7a4_3, eJ6_bitCount_0f7a4_4, eJ6_bitCount_0f7a4_7, eJ6_bitCount_0f7a4_8, eJ6_bitCount_0f7a4_9, eJ6_bitCount_0f7a4_10, eJ6_bitCount_0f7a4_11, eJ6_bitCount_0f7a4_14, eJ6_bitCount_0f7a4_15, eJ6_bitCount_0f7a4_16, eJ6_bitCount_0f7a4_17, eJ6_bitCount_0f7a4_18, eJ6_bitCount_0f7a4_21, eJ6_bitCount_0f7a4_22, eJ6_bitCount_0f7a4_23, eJ6_bitCount_0f7a4_24, eJ6_bitCount_0f7a4_25, eJ6_bitCount_0f7a4_26, eJ6_bitCount_0f7a4_27, eJ6_bitCount_0f7a4_28, eJ6_bitCount_0f7a4_29, eJ6_bitCount_0f7a4_32, eJ6_bitCount_0f7a4_33, eJ6_bitCount_0f7a4_34, eJ6_bitCount_0f7a4_35, eJ6_bitCount_0f7a4_36, eJ6_bitCount_0f7a4_38, eJ6_bitCount_0f7a4_39, eJ6_bitCount_0f7a4_40, eJ6_bitCount_0f7a4_41, eJ6_bitCount_0f7a4_42, eJ6_bitCount_0f7a4_43, eJ6_bitCount_0f7a4_45, eJ6_bitCount_0f7a4_46, eJ6_bitCount_0f7a4_47, eJ6_bitCount_0f7a4_48, eJ6_bitCount_0f7a4_49, eJ6_bitCount_0f7a4_51, eJ6_bitCount_0f7a4_52, one0, and_false, false_and, gk, gr, gi, gs, rv_some, ret_i, ret_n, Option.bind_some, List.cons_append, List.nil_append, z0, z1, zi, zj, i10, i01, true_or, or_true, eq_self, not_false_eq_true, not_true_eq_false, if_true, if_false, ite_not, Decidable.not_not, and_true, true_and, or_false, false_or, Nat.reduceLeDiff, Nat.reduceMod, Nat.reduceEqDiff]
  rfl
theorem X3_isRetestedBy_ev (hB : LB F o) {r : Nat} (hr : r < 40) {k : Nat} (hk : k < 8) (hv : vp_in (I (o + 18 + r) 9 ||| I (o + 18 + r) 10) 256) : pm_ev tb xl xs mX3_isRetestedBy 0 [some (.ref (o + 18 + r)), some (.int (nI k))] [] (pm_G F I) = some (some (.int (if bitS (I (o + 18 + r) 9 ||| I (o + 18 + r) 10) k then 1 else 0)), pm_G F I) := by
  simp only [eX3_isRetestedBy_0, eX3_isRetestedBy_1, eX3_isRetestedBy_4, eX3_isRetestedBy_5, eX3_isRetestedBy_8, eX3_isRetestedBy_9, eX3_isRetestedBy_10, eX3_isRetestedBy_11, eX3_isRetestedBy_12, eX3_isRetestedBy_13, eX3_isRetestedBy_16, eX3_isRetestedBy_17, eX3_isRetestedBy_20, eX3_isRetestedBy_21, one0, and_false, false_and, gk, gr, gi, gs, rv_some, ret_i, ret_n, Option.bind_some, List.cons_append, List.nil_append, z0, z1, zi, zj, i10, i01, true_or, or_true, eq_self, not_false_eq_true, not_true_eq_false, if_true, if_false, ite_not, Decidable.not_not, and_true, true_and, or_false, false_or, Nat.reduceLeDiff, Nat.reduceMod, Nat.reduceEqDiff, lbr hB hr, lbr2 hB hr, ix40 hr, cl40 hr, bit_on hv hk]
  by_cases h : bitS (I (o + 18 + r) 9 ||| I (o + 18 + r) 10) k
  · rw [if_pos h, if_pos h]
  · rw [if_neg h, if_neg h]
def cp3 (J : Nat → Nat → Int32) (A B : Nat) := pm_u2 (pm_u2 (pm_u2 J A 0 (J B 0)) A 1 (J B 1)) A 2 (J B 2)
def cp4 (J : Nat → Nat → Int32) (A B : Nat) := pm_u2 (pm_u2 (pm_u2 (pm_u2 J A 0 (J B 0)) A 1 (J B 1)) A 2 (J B 2)) A 3 (J B 3)
def cp12 (J : Nat → Nat → Int32) (A B : Nat) := pm_u2 (pm_u2 (pm_u2 (pm_u2 (pm_u2 (pm_u2 (pm_u2 (pm_u2 (pm_u2 (pm_u2 (pm_u2 (pm_u2 J A 0 (J B 0)) A 1 (J B 1)) A 2 (J B 2)) A 3 (J B 3)) A 4 (J B 4)) A 5 (J B 5)) A 6 (J B 6)) A 7 (J B 7)) A 8 (J B 8)) A 9 (J B 9)) A 10 (J B 10)) A 11 (J B 11)
theorem cp3_off {J : Nat → Nat → Int32} {A B k : Nat} (h : k ≠ A) : cp3 J A B k = J k := by unfold cp3; rw [u2_off h, u2_off h, u2_off h]
theorem cp4_off {J : Nat → Nat → Int32} {A B k : Nat} (h : k ≠ A) : cp4 J A B k = J k := by unfold cp4; rw [u2_off h, u2_off h, u2_off h, u2_off h]
theorem cp12_off {J : Nat → Nat → Int32} {A B k : Nat} (h : k ≠ A) : cp12 J A B k = J k := by unfold cp12; rw [u2_off h, u2_off h, u2_off h, u2_off h, u2_off h, u2_off h, u2_off h, u2_off h, u2_off h, u2_off h, u2_off h, u2_off h]
theorem X0_copyFrom_ev (hB : LB F o) (hB2 : LB F o') (hne : o' ≠ o) {a : Nat} (ha : a < 6) : pm_ev tb xl xs mX0_copyFrom 0 [some (.ref (o + 2 + a)), some (.ref (o' + 2 + a))] [] (pm_G F I) = some (none, pm_G F (cp3 I (o + 2 + a) (o' + 2 + a))) := by
  have e : (o' + 2 + a = o + 2 + a) = False := eq_false (by omega)
  simp only [eX0_copyFrom_0, eX0_copyFrom_1, eX0_copyFrom_2, eX0_copyFrom_5, eX0_copyFrom_8, eX0_copyFrom_9, eX0_copyFrom_10, eX0_copyFrom_13, eX0_copyFrom_16, eX0_copyFrom_17, eX0_copyFrom_18, eX0_copyFrom_21, eX0_copyFrom_24, one0, and_false, false_and, gk, gr, gi, gs, rv_some, ret_i, ret_n, Option.bind_some, List.cons_append, List.nil_append, z0, z1, zi, zj, i10, i01, true_or, or_true, eq_self, not_false_eq_true, not_true_eq_false, if_true, if_false, ite_not, Decidable.not_not, and_true, true_and, or_false, false_or, Nat.reduceLeDiff, Nat.reduceMod, Nat.reduceEqDiff, lba2 hB ha, lba2 hB2 ha, u2_r, e, cp3]
theorem X2_copyFrom_ev (hB : LB F o) (hB2 : LB F o') (hne : o' ≠ o) {a : Nat} (ha : a < 8) : pm_ev tb xl xs mX2_copyFrom 0 [some (.ref (o + 9 + a)), some (.ref (o' + 9 + a))] [] (pm_G F I) = some (none, pm_G F (cp4 I (o + 9 + a) (o' + 9 + a))) := by
  have e : (o' + 9 + a = o + 9 + a) = False := eq_false (by omega)
  simp only [eX2_copyFrom_0, eX2_copyFrom_1, eX2_copyFrom_2, eX2_copyFrom_5, eX2_copyFrom_8, eX2_copyFrom_9, eX2_copyFrom_10, eX2_copyFrom_13, eX2_copyFrom_16, eX2_copyFrom_17, eX2_copyFrom_18, eX2_copyFrom_21, eX2_copyFrom_24, eX2_copyFrom_25, eX2_copyFrom_26, eX2_copyFrom_29, eX2_copyFrom_32, one0, and_false, false_and, gk, gr, gi, gs, rv_some, ret_i, ret_n, Option.bind_some, List.cons_append, List.nil_append, z0, z1, zi, zj, i10, i01, true_or, or_true, eq_self, not_false_eq_true, not_true_eq_false, if_true, if_false, ite_not, Decidable.not_not, and_true, true_and, or_false, false_or, Nat.reduceLeDiff, Nat.reduceMod, Nat.reduceEqDiff, lbh2 hB ha, lbh2 hB2 ha, u2_r, e, cp4]
theorem X3_copyFrom_ev (hB : LB F o) (hB2 : LB F o') (hne : o' ≠ o) {a : Nat} (ha : a < 40) (hz : zb (I (o' + 18 + a) 11)) : pm_ev tb xl xs mX3_copyFrom 0 [some (.ref (o + 18 + a)), some (.ref (o' + 18 + a))] [] (pm_G F I) = some (none, pm_G F (cp12 I (o + 18 + a) (o' + 18 + a))) := by
  have e : (o' + 18 + a = o + 18 + a) = False := eq_false (by omega)
  simp only [eX3_copyFrom_0, eX3_copyFrom_1, eX3_copyFrom_2, eX3_copyFrom_5, eX3_copyFrom_8, eX3_copyFrom_9, eX3_copyFrom_10, eX3_copyFrom_13, eX3_copyFrom_16, eX3_copyFrom_17, eX3_copyFrom_18, eX3_copyFrom_21, eX3_copyFrom_24, eX3_copyFrom_25, eX3_copyFrom_26, eX3_copyFrom_29, eX3_copyFrom_32, eX3_copyFrom_33, eX3_copyFrom_34, eX3_copyFrom_37, eX3_copyFrom_40, eX3_copyFrom_41, eX3_copyFrom_42, eX3_copyFrom_45, eX3_copyFrom_48, eX3_copyFrom_49, eX3_copyFrom_50, eX3_copyFrom_53, eX3_copyFrom_56, eX3_copyFrom_57, eX3_copyFrom_58, eX3_copyFrom_61, eX3_copyFrom_64, eX3_copyFrom_65, eX3_copyFrom_66, eX3_copyFrom_69, eX3_copyFrom_72, eX3_copyFrom_73, eX3_copyFrom_74, eX3_copyFrom_77, eX3_copyFrom_80, eX3_copyFrom_81, eX3_copyFrom_82, eX3_copyFrom_85, eX3_copyFrom_88, eX3_copyFrom_89, eX3_copyFrom_90, eX3_copyFrom_93, eX3_copyFrom_96, one0, and_false, false_and, gk, gr, gi, gs, rv_some, ret_i, ret_n, Option.bind_some, List.cons_append, List.nil_append, z0, z1, zi, zj, i10, i01, true_or, or_true, eq_self, not_false_eq_true, not_true_eq_false, if_true, if_false, ite_not, Decidable.not_not, and_true, true_and, or_false, false_or, Nat.reduceLeDiff, Nat.reduceMod, Nat.reduceEqDiff, lbr2 hB ha, lbr2 hB2 ha, u2_r, e, hz, cp12]
theorem RBa.cp {J : Nat → Nat → Int32} {a : Nat} (h : RBa J o' s a) : RBa (cp3 J (o + 2 + a) (o' + 2 + a)) o s a := by
  unfold RBa cp3 at *
  simp only [u2_r, true_and, Nat.reduceEqDiff, if_true, if_false]
  exact h
theorem RBh.cp {J : Nat → Nat → Int32} {a : Nat} (h : RBh J o' s a) : RBh (cp4 J (o + 9 + a) (o' + 9 + a)) o s a := by
  unfold RBh cp4 at *
  simp only [u2_r, true_and, Nat.reduceEqDiff, if_true, if_false]
  exact h
theorem RBr.cp {J : Nat → Nat → Int32} {a : Nat} (h : RBr J o' s a) : RBr (cp12 J (o + 18 + a) (o' + 18 + a)) o s a := by
  unfold RBr cp12 at *
  simp only [u2_r, true_and, Nat.reduceEqDiff, if_true, if_false]
  exact h
theorem X1_copyFrom_ev (hB : LB F o) (hB2 : LB F o') (hdis : o' + 58 ≤ o ∨ o + 58 ≤ o') (hR : RB I o' s nA nH nR) (hT : Iv s nA nH nR) : ∃ I', pm_ev tb xl xs mX1_copyFrom 0 [some (.ref o), some (.ref o'), none] [] (pm_G F I) = some (none, pm_G F I') ∧ RB I' o s nA nH nR ∧ Fr I I' o := by
  have h6 := hT.1.1.2
  have h8 := hT.1.2.1.2
  have h40 := hT.1.2.2.1.2
  have hnA := hT.1.1.1
  have hnH := hT.1.2.1.1
  have hnR := hT.1.2.2.1.1
  have hne : o' ≠ o := by omega
  have src : ∀ J, Fr I J o → RB J o' s nA nH nR := fun J hF => hR.to h6 h8 h40 (fun k h1 h2 => hF k (by omega)) (fun _ _ => rfl)
  have key3 : ∀ n i (J : Nat → Nat → Int32), i + n = nR → Fr I J o → J o 3 = gp s 4 → J o 4 = gp s 5 → J o 5 = gp s 6 → (∀ a, a < nA → RBa J o s a) → (∀ a, a < nH → RBh J o s a) → (∀ a, a < i → RBr J o s a) → ∃ I', pm_ev tb xl xs mX1_copyFrom 88 [some (.ref o), some (.ref o'), some (.int (nI i))] [] (pm_G F J) = some (none, pm_G F I') ∧ RB I' o s nA nH nR ∧ Fr I I' o := by
    intro n
    induction n with
    | zero =>
      intro i J hi hF h3 h4 h5 ha hh hr
      obtain rfl : i = nR := by omega
      have hR := src J hF
      have e : (o' = o) = False := eq_false hne
      refine ⟨pm_u2 (pm_u2 (pm_u2 (pm_u2 (pm_u2 (pm_u2 J o 6 (gp s 0)) o 7 (gp s 1)) o 8 (gp s 2)) o 9 (gp s 3)) o 10 (gp s 7)) o 11 (gp s 8), ?_, ⟨?_, fun a ha' => (ha a ha').to ?_ (fun _ _ => rfl), fun a ha' => (hh a ha').to ?_ (fun _ _ => rfl), fun a ha' => (hr a ha').to ?_ (fun _ _ => rfl)⟩, ?_⟩
      · rw [eX1_copyFrom_88]
        simp only [eX1_copyFrom_0, eX1_copyFrom_1, eX1_copyFrom_2, eX1_copyFrom_5, eX1_copyFrom_8, eX1_copyFrom_9, eX1_copyFrom_11, eX1_copyFrom_12, eX1_copyFrom_15, eX1_copyFrom_18, eX1_copyFrom_19, eX1_copyFrom_22, eX1_copyFrom_23, eX1_copyFrom_24, eX1_copyFrom_25, eX1_copyFrom_28, eX1_copyFrom_29, eX1_copyFrom_30, eX1_copyFrom_33, eX1_copyFrom_36, eX1_copyFrom_39, eX1_copyFrom_40, eX1_copyFrom_41, eX1_copyFrom_44, eX1_copyFrom_47, eX1_copyFrom_48, eX1_copyFrom_50, eX1_copyFrom_51, eX1_copyFrom_54, eX1_copyFrom_57, eX1_copyFrom_58, eX1_copyFrom_61, eX1_copyFrom_62, eX1_copyFrom_63, eX1_copyFrom_64, eX1_copyFrom_67, eX1_copyFrom_68, eX1_copyFrom_69, eX1_copyFrom_72, eX1_copyFrom_75, eX1_copyFrom_78, eX1_copyFrom_79, eX1_copyFrom_80, eX1_copyFrom_83, eX1_copyFrom_86, eX1_copyFrom_87, eX1_copyFrom_89, eX1_copyFrom_90, eX1_copyFrom_93, eX1_copyFrom_96, eX1_copyFrom_97, eX1_copyFrom_100, eX1_copyFrom_101, eX1_copyFrom_102, eX1_copyFrom_103, eX1_copyFrom_106, eX1_copyFrom_107, eX1_copyFrom_108, eX1_copyFrom_111, eX1_copyFrom_114, eX1_copyFrom_117, eX1_copyFrom_118, eX1_copyFrom_119, eX1_copyFrom_122, eX1_copyFrom_125, eX1_copyFrom_126, eX1_copyFrom_127, eX1_copyFrom_130, eX1_copyFrom_133, eX1_copyFrom_134, eX1_copyFrom_135, eX1_copyFrom_138, eX1_copyFrom_141, eX1_copyFrom_142, eX1_copyFrom_143, eX1_copyFrom_146, eX1_copyFrom_149, eX1_copyFrom_150, eX1_copyFrom_151, eX1_copyFrom_154, eX1_copyFrom_157, eX1_copyFrom_158, eX1_copyFrom_159, eX1_copyFrom_162, eX1_copyFrom_165, one0, and_false, false_and, gk, gr, gi, gs, rv_some, ret_i, ret_n, Option.bind_some, List.cons_append, List.nil_append, z0, z1, zi, zj, i10, i01, true_or, or_true, eq_self, not_false_eq_true, not_true_eq_false, if_true, if_false, ite_not, Decidable.not_not, and_true, true_and, or_false, false_or, Nat.reduceLeDiff, Nat.reduceMod, Nat.reduceEqDiff, lb0 hB, lb1 hB, lb2 hB, lb3 hB, lb4 hB, lb5 hB, lb6 hB, lb0 hB2, lb1 hB2, lb2 hB2, lb3 hB2, rbg3 hR, rbg4 hR, rbg5 hR, rbg6 hR, rbg7 hR, rbg8 hR, rbg9 hR, rbg10 hR, rbg11 hR, h5, hnR, lt_f (Nat.le_refl i) (by omega), u2_r, e]
      · unfold RBg
        simp only [u2_r, true_and, Nat.reduceEqDiff, if_true, if_false, h3, h4, h5]
      · rw [u2_off (by omega), u2_off (by omega), u2_off (by omega), u2_off (by omega), u2_off (by omega), u2_off (by omega)]
      · rw [u2_off (by omega), u2_off (by omega), u2_off (by omega), u2_off (by omega), u2_off (by omega), u2_off (by omega)]
      · rw [u2_off (by omega), u2_off (by omega), u2_off (by omega), u2_off (by omega), u2_off (by omega), u2_off (by omega)]
      · exact (((((hF.u2 (by omega)).u2 (by omega)).u2 (by omega)).u2 (by omega)).u2 (by omega)).u2 (by omega)
    | succ n ih =>
      intro i J hi hF h3 h4 h5 ha hh hr
      have hR := src J hF
      have hiR : i < nR := by omega
      have hi4 : i < 40 := by omega
      have hz : zb (J (o' + 18 + i) 11) := by rw [rbr11 hR hiR]; exact (hT.2 i hiR).2.1.1
      rw [eX1_copyFrom_88]
      simp only [eX1_copyFrom_0, eX1_copyFrom_1, eX1_copyFrom_2, eX1_copyFrom_5, eX1_copyFrom_8, eX1_copyFrom_9, eX1_copyFrom_11, eX1_copyFrom_12, eX1_copyFrom_15, eX1_copyFrom_18, eX1_copyFrom_19, eX1_copyFrom_22, eX1_copyFrom_23, eX1_copyFrom_24, eX1_copyFrom_25, eX1_copyFrom_28, eX1_copyFrom_29, eX1_copyFrom_30, eX1_copyFrom_33, eX1_copyFrom_36, eX1_copyFrom_39, eX1_copyFrom_40, eX1_copyFrom_41, eX1_copyFrom_44, eX1_copyFrom_47, eX1_copyFrom_48, eX1_copyFrom_50, eX1_copyFrom_51, eX1_copyFrom_54, eX1_copyFrom_57, eX1_copyFrom_58, eX1_copyFrom_61, eX1_copyFrom_62, eX1_copyFrom_63, eX1_copyFrom_64, eX1_copyFrom_67, eX1_copyFrom_68, eX1_copyFrom_69, eX1_copyFrom_72, eX1_copyFrom_75, eX1_copyFrom_78, eX1_copyFrom_79, eX1_copyFrom_80, eX1_copyFrom_83, eX1_copyFrom_86, eX1_copyFrom_87, eX1_copyFrom_89, eX1_copyFrom_90, eX1_copyFrom_93, eX1_copyFrom_96, eX1_copyFrom_97, eX1_copyFrom_100, eX1_copyFrom_101, eX1_copyFrom_102, eX1_copyFrom_103, eX1_copyFrom_106, eX1_copyFrom_107, eX1_copyFrom_108, eX1_copyFrom_111, eX1_copyFrom_114, eX1_copyFrom_117, eX1_copyFrom_118, eX1_copyFrom_119, eX1_copyFrom_122, eX1_copyFrom_125, eX1_copyFrom_126, eX1_copyFrom_127, eX1_copyFrom_130, eX1_copyFrom_133, eX1_copyFrom_134, eX1_copyFrom_135, eX1_copyFrom_138, eX1_copyFrom_141, eX1_copyFrom_142, eX1_copyFrom_143, eX1_copyFrom_146, eX1_copyFrom_149, eX1_copyFrom_150, eX1_copyFrom_151, eX1_copyFrom_154, eX1_copyFrom_157, eX1_copyFrom_158, eX1_copyFrom_159, eX1_copyFrom_162, eX1_copyFrom_165, one0, and_false, false_and, gk, gr, gi, gs, rv_some, ret_i, ret_n, Option.bind_some, List.cons_append, List.nil_append, z0, z1, zi, zj, i10, i01, true_or, or_true, eq_self, not_false_eq_true, not_true_eq_false, if_true, if_false, ite_not, Decidable.not_not, and_true, true_and, or_false, false_or, Nat.reduceLeDiff, Nat.reduceMod, Nat.reduceEqDiff, lb0 hB, lb1 hB, lb2 hB, lb3 hB, lb4 hB, lb5 hB, lb6 hB, lb0 hB2, lb1 hB2, lb2 hB2, lb3 hB2, lb6 hB2, lbr hB hi4, lbr2 hB hi4, lbr hB2 hi4, lbr2 hB2 hi4, ix40 hi4, cl40 hi4, h5, hnR, lt_t hiR (by omega), nI_1, X3_copyFrom_ev hB hB2 hne hi4 hz]
      refine ih (i + 1) _ (by omega) (fun k hk => ?_) ?_ ?_ ?_ (fun a ha' => (ha a ha').to (cp12_off (by omega)) (fun _ _ => rfl)) (fun a ha' => (hh a ha').to (cp12_off (by omega)) (fun _ _ => rfl)) (fun a ha' => ?_)
      · rw [cp12_off (by omega)]; exact hF k hk
      · rw [cp12_off (by omega)]; exact h3
      · rw [cp12_off (by omega)]; exact h4
      · rw [cp12_off (by omega)]; exact h5
      · rcases Nat.lt_or_ge a i with g | g
        · exact (hr a g).to (cp12_off (by omega)) (fun _ _ => rfl)
        · obtain rfl : a = i := by omega
          exact (hR.2.2.2 a hiR).cp
  have key2 : ∀ n i (J : Nat → Nat → Int32), i + n = nH → Fr I J o → J o 3 = gp s 4 → J o 4 = gp s 5 → (∀ a, a < nA → RBa J o s a) → (∀ a, a < i → RBh J o s a) → ∃ I', pm_ev tb xl xs mX1_copyFrom 49 [some (.ref o), some (.ref o'), some (.int (nI i))] [] (pm_G F J) = some (none, pm_G F I') ∧ RB I' o s nA nH nR ∧ Fr I I' o := by
    intro n
    induction n with
    | zero =>
      intro i J hi hF h3 h4 ha hh
      obtain rfl : i = nH := by omega
      have hR := src J hF
      rw [eX1_copyFrom_49]
      simp only [eX1_copyFrom_0, eX1_copyFrom_1, eX1_copyFrom_2, eX1_copyFrom_5, eX1_copyFrom_8, eX1_copyFrom_9, eX1_copyFrom_11, eX1_copyFrom_12, eX1_copyFrom_15, eX1_copyFrom_18, eX1_copyFrom_19, eX1_copyFrom_22, eX1_copyFrom_23, eX1_copyFrom_24, eX1_copyFrom_25, eX1_copyFrom_28, eX1_copyFrom_29, eX1_copyFrom_30, eX1_copyFrom_33, eX1_copyFrom_36, eX1_copyFrom_39, eX1_copyFrom_40, eX1_copyFrom_41, eX1_copyFrom_44, eX1_copyFrom_47, eX1_copyFrom_48, eX1_copyFrom_50, eX1_copyFrom_51, eX1_copyFrom_54, eX1_copyFrom_57, eX1_copyFrom_58, eX1_copyFrom_61, eX1_copyFrom_62, eX1_copyFrom_63, eX1_copyFrom_64, eX1_copyFrom_67, eX1_copyFrom_68, eX1_copyFrom_69, eX1_copyFrom_72, eX1_copyFrom_75, eX1_copyFrom_78, eX1_copyFrom_79, eX1_copyFrom_80, eX1_copyFrom_83, eX1_copyFrom_86, eX1_copyFrom_87, eX1_copyFrom_89, eX1_copyFrom_90, eX1_copyFrom_93, eX1_copyFrom_96, eX1_copyFrom_97, eX1_copyFrom_100, eX1_copyFrom_101, eX1_copyFrom_102, eX1_copyFrom_103, eX1_copyFrom_106, eX1_copyFrom_107, eX1_copyFrom_108, eX1_copyFrom_111, eX1_copyFrom_114, eX1_copyFrom_117, eX1_copyFrom_118, eX1_copyFrom_119, eX1_copyFrom_122, eX1_copyFrom_125, eX1_copyFrom_126, eX1_copyFrom_127, eX1_copyFrom_130, eX1_copyFrom_133, eX1_copyFrom_134, eX1_copyFrom_135, eX1_copyFrom_138, eX1_copyFrom_141, eX1_copyFrom_142, eX1_copyFrom_143, eX1_copyFrom_146, eX1_copyFrom_149, eX1_copyFrom_150, eX1_copyFrom_151, eX1_copyFrom_154, eX1_copyFrom_157, eX1_copyFrom_158, eX1_copyFrom_159, eX1_copyFrom_162, eX1_copyFrom_165, one0, and_false, false_and, gk, gr, gi, gs, rv_some, ret_i, ret_n, Option.bind_some, List.cons_append, List.nil_append, z0, z1, zi, zj, i10, i01, true_or, or_true, eq_self, not_false_eq_true, not_true_eq_false, if_true, if_false, ite_not, Decidable.not_not, and_true, true_and, or_false, false_or, Nat.reduceLeDiff, Nat.reduceMod, Nat.reduceEqDiff, lb0 hB, lb1 hB, lb2 hB, lb3 hB, lb4 hB, lb5 hB, lb6 hB, lb0 hB2, rbg3 hR, rbg4 hR, rbg5 hR, rbg6 hR, rbg7 hR, rbg8 hR, rbg9 hR, rbg10 hR, rbg11 hR, h4, hnH, lt_f (Nat.le_refl i) (by omega)]
      refine key3 nR 0 _ (by omega) (hF.u2 (by omega)) ?_ ?_ ?_ (fun a ha' => (ha a ha').to (u2_off (by omega)) (fun _ _ => rfl)) (fun a ha' => (hh a ha').to (u2_off (by omega)) (fun _ _ => rfl)) (fun a ha' => absurd ha' (by omega))
      · rw [u2_r, if_neg (by omega)]; exact h3
      · rw [u2_r, if_neg (by omega)]; exact h4
      · rw [u2_r, if_pos ⟨rfl, rfl⟩]
    | succ n ih =>
      intro i J hi hF h3 h4 ha hh
      have hR := src J hF
      have hiR : i < nH := by omega
      have hi4 : i < 8 := by omega
      rw [eX1_copyFrom_49]
      simp only [eX1_copyFrom_0, eX1_copyFrom_1, eX1_copyFrom_2, eX1_copyFrom_5, eX1_copyFrom_8, eX1_copyFrom_9, eX1_copyFrom_11, eX1_copyFrom_12, eX1_copyFrom_15, eX1_copyFrom_18, eX1_copyFrom_19, eX1_copyFrom_22, eX1_copyFrom_23, eX1_copyFrom_24, eX1_copyFrom_25, eX1_copyFrom_28, eX1_copyFrom_29, eX1_copyFrom_30, eX1_copyFrom_33, eX1_copyFrom_36, eX1_copyFrom_39, eX1_copyFrom_40, eX1_copyFrom_41, eX1_copyFrom_44, eX1_copyFrom_47, eX1_copyFrom_48, eX1_copyFrom_50, eX1_copyFrom_51, eX1_copyFrom_54, eX1_copyFrom_57, eX1_copyFrom_58, eX1_copyFrom_61, eX1_copyFrom_62, eX1_copyFrom_63, eX1_copyFrom_64, eX1_copyFrom_67, eX1_copyFrom_68, eX1_copyFrom_69, eX1_copyFrom_72, eX1_copyFrom_75, eX1_copyFrom_78, eX1_copyFrom_79, eX1_copyFrom_80, eX1_copyFrom_83, eX1_copyFrom_86, eX1_copyFrom_87, eX1_copyFrom_89, eX1_copyFrom_90, eX1_copyFrom_93, eX1_copyFrom_96, eX1_copyFrom_97, eX1_copyFrom_100, eX1_copyFrom_101, eX1_copyFrom_102, eX1_copyFrom_103, eX1_copyFrom_106, eX1_copyFrom_107, eX1_copyFrom_108, eX1_copyFrom_111, eX1_copyFrom_114, eX1_copyFrom_117, eX1_copyFrom_118, eX1_copyFrom_119, eX1_copyFrom_122, eX1_copyFrom_125, eX1_copyFrom_126, eX1_copyFrom_127, eX1_copyFrom_130, eX1_copyFrom_133, eX1_copyFrom_134, eX1_copyFrom_135, eX1_copyFrom_138, eX1_copyFrom_141, eX1_copyFrom_142, eX1_copyFrom_143, eX1_copyFrom_146, eX1_copyFrom_149, eX1_copyFrom_150, eX1_copyFrom_151, eX1_copyFrom_154, eX1_copyFrom_157, eX1_copyFrom_158, eX1_copyFrom_159, eX1_copyFrom_162, eX1_copyFrom_165, one0, and_false, false_and, gk, gr, gi, gs, rv_some, ret_i, ret_n, Option.bind_some, List.cons_append, List.nil_append, z0, z1, zi, zj, i10, i01, true_or, or_true, eq_self, not_false_eq_true, not_true_eq_false, if_true, if_false, ite_not, Decidable.not_not, and_true, true_and, or_false, false_or, Nat.reduceLeDiff, Nat.reduceMod, Nat.reduceEqDiff, lb0 hB, lb1 hB, lb2 hB, lb3 hB, lb4 hB, lb5 hB, lb6 hB, lb0 hB2, lb1 hB2, lb2 hB2, lb3 hB2, lb5 hB2, lbh hB hi4, lbh2 hB hi4, lbh hB2 hi4, lbh2 hB2 hi4, ix8 hi4, cl8 hi4, h4, hnH, lt_t hiR (by omega), nI_1, X2_copyFrom_ev hB hB2 hne hi4]
      refine ih (i + 1) _ (by omega) (fun k hk => ?_) ?_ ?_ (fun a ha' => (ha a ha').to (cp4_off (by omega)) (fun _ _ => rfl)) (fun a ha' => ?_)
      · rw [cp4_off (by omega)]; exact hF k hk
      · rw [cp4_off (by omega)]; exact h3
      · rw [cp4_off (by omega)]; exact h4
      · rcases Nat.lt_or_ge a i with g | g
        · exact (hh a g).to (cp4_off (by omega)) (fun _ _ => rfl)
        · obtain rfl : a = i := by omega
          exact (hR.2.2.1 a hiR).cp
  have key1 : ∀ n i (J : Nat → Nat → Int32), i + n = nA → Fr I J o → J o 3 = gp s 4 → (∀ a, a < i → RBa J o s a) → ∃ I', pm_ev tb xl xs mX1_copyFrom 10 [some (.ref o), some (.ref o'), some (.int (nI i))] [] (pm_G F J) = some (none, pm_G F I') ∧ RB I' o s nA nH nR ∧ Fr I I' o := by
    intro n
    induction n with
    | zero =>
      intro i J hi hF h3 ha
      obtain rfl : i = nA := by omega
      have hR := src J hF
      rw [eX1_copyFrom_10]
      simp only [eX1_copyFrom_0, eX1_copyFrom_1, eX1_copyFrom_2, eX1_copyFrom_5, eX1_copyFrom_8, eX1_copyFrom_9, eX1_copyFrom_11, eX1_copyFrom_12, eX1_copyFrom_15, eX1_copyFrom_18, eX1_copyFrom_19, eX1_copyFrom_22, eX1_copyFrom_23, eX1_copyFrom_24, eX1_copyFrom_25, eX1_copyFrom_28, eX1_copyFrom_29, eX1_copyFrom_30, eX1_copyFrom_33, eX1_copyFrom_36, eX1_copyFrom_39, eX1_copyFrom_40, eX1_copyFrom_41, eX1_copyFrom_44, eX1_copyFrom_47, eX1_copyFrom_48, eX1_copyFrom_50, eX1_copyFrom_51, eX1_copyFrom_54, eX1_copyFrom_57, eX1_copyFrom_58, eX1_copyFrom_61, eX1_copyFrom_62, eX1_copyFrom_63, eX1_copyFrom_64, eX1_copyFrom_67, eX1_copyFrom_68, eX1_copyFrom_69, eX1_copyFrom_72, eX1_copyFrom_75, eX1_copyFrom_78, eX1_copyFrom_79, eX1_copyFrom_80, eX1_copyFrom_83, eX1_copyFrom_86, eX1_copyFrom_87, eX1_copyFrom_89, eX1_copyFrom_90, eX1_copyFrom_93, eX1_copyFrom_96, eX1_copyFrom_97, eX1_copyFrom_100, eX1_copyFrom_101, eX1_copyFrom_102, eX1_copyFrom_103, eX1_copyFrom_106, eX1_copyFrom_107, eX1_copyFrom_108, eX1_copyFrom_111, eX1_copyFrom_114, eX1_copyFrom_117, eX1_copyFrom_118, eX1_copyFrom_119, eX1_copyFrom_122, eX1_copyFrom_125, eX1_copyFrom_126, eX1_copyFrom_127, eX1_copyFrom_130, eX1_copyFrom_133, eX1_copyFrom_134, eX1_copyFrom_135, eX1_copyFrom_138, eX1_copyFrom_141, eX1_copyFrom_142, eX1_copyFrom_143, eX1_copyFrom_146, eX1_copyFrom_149, eX1_copyFrom_150, eX1_copyFrom_151, eX1_copyFrom_154, eX1_copyFrom_157, eX1_copyFrom_158, eX1_copyFrom_159, eX1_copyFrom_162, eX1_copyFrom_165, one0, and_false, false_and, gk, gr, gi, gs, rv_some, ret_i, ret_n, Option.bind_some, List.cons_append, List.nil_append, z0, z1, zi, zj, i10, i01, true_or, or_true, eq_self, not_false_eq_true, not_true_eq_false, if_true, if_false, ite_not, Decidable.not_not, and_true, true_and, or_false, false_or, Nat.reduceLeDiff, Nat.reduceMod, Nat.reduceEqDiff, lb0 hB, lb1 hB, lb2 hB, lb3 hB, lb4 hB, lb5 hB, lb6 hB, lb0 hB2, rbg3 hR, rbg4 hR, rbg5 hR, rbg6 hR, rbg7 hR, rbg8 hR, rbg9 hR, rbg10 hR, rbg11 hR, h3, hnA, lt_f (Nat.le_refl i) (by omega)]
      refine key2 nH 0 _ (by omega) (hF.u2 (by omega)) ?_ ?_ (fun a ha' => (ha a ha').to (u2_off (by omega)) (fun _ _ => rfl)) (fun a ha' => absurd ha' (by omega))
      · rw [u2_r, if_neg (by omega)]; exact h3
      · rw [u2_r, if_pos ⟨rfl, rfl⟩]
    | succ n ih =>
      intro i J hi hF h3 ha
      have hR := src J hF
      have hiR : i < nA := by omega
      have hi4 : i < 6 := by omega
      rw [eX1_copyFrom_10]
      simp only [eX1_copyFrom_0, eX1_copyFrom_1, eX1_copyFrom_2, eX1_copyFrom_5, eX1_copyFrom_8, eX1_copyFrom_9, eX1_copyFrom_11, eX1_copyFrom_12, eX1_copyFrom_15, eX1_copyFrom_18, eX1_copyFrom_19, eX1_copyFrom_22, eX1_copyFrom_23, eX1_copyFrom_24, eX1_copyFrom_25, eX1_copyFrom_28, eX1_copyFrom_29, eX1_copyFrom_30, eX1_copyFrom_33, eX1_copyFrom_36, eX1_copyFrom_39, eX1_copyFrom_40, eX1_copyFrom_41, eX1_copyFrom_44, eX1_copyFrom_47, eX1_copyFrom_48, eX1_copyFrom_50, eX1_copyFrom_51, eX1_copyFrom_54, eX1_copyFrom_57, eX1_copyFrom_58, eX1_copyFrom_61, eX1_copyFrom_62, eX1_copyFrom_63, eX1_copyFrom_64, eX1_copyFrom_67, eX1_copyFrom_68, eX1_copyFrom_69, eX1_copyFrom_72, eX1_copyFrom_75, eX1_copyFrom_78, eX1_copyFrom_79, eX1_copyFrom_80, eX1_copyFrom_83, eX1_copyFrom_86, eX1_copyFrom_87, eX1_copyFrom_89, eX1_copyFrom_90, eX1_copyFrom_93, eX1_copyFrom_96, eX1_copyFrom_97, eX1_copyFrom_100, eX1_copyFrom_101, eX1_copyFrom_102, eX1_copyFrom_103, eX1_copyFrom_106, eX1_copyFrom_107, eX1_copyFrom_108, eX1_copyFrom_111, eX1_copyFrom_114, eX1_copyFrom_117, eX1_copyFrom_118, eX1_copyFrom_119, eX1_copyFrom_122, eX1_copyFrom_125, eX1_copyFrom_126, eX1_copyFrom_127, eX1_copyFrom_130, eX1_copyFrom_133, eX1_copyFrom_134, eX1_copyFrom_135, eX1_copyFrom_138, eX1_copyFrom_141, eX1_copyFrom_142, eX1_copyFrom_143, eX1_copyFrom_146, eX1_copyFrom_149, eX1_copyFrom_150, eX1_copyFrom_151, eX1_copyFrom_154, eX1_copyFrom_157, eX1_copyFrom_158, eX1_copyFrom_159, eX1_copyFrom_162, eX1_copyFrom_165, one0, and_false, false_and, gk, gr, gi, gs, rv_some, ret_i, ret_n, Option.bind_some, List.cons_append, List.nil_append, z0, z1, zi, zj, i10, i01, true_or, or_true, eq_self, not_false_eq_true, not_true_eq_false, if_true, if_false, ite_not, Decidable.not_not, and_true, true_and, or_false, false_or, Nat.reduceLeDiff, Nat.reduceMod, Nat.reduceEqDiff, lb0 hB, lb1 hB, lb2 hB, lb3 hB, lb4 hB, lb5 hB, lb6 hB, lb0 hB2, lb1 hB2, lb2 hB2, lb3 hB2, lb4 hB2, lba hB hi4, lba2 hB hi4, lba hB2 hi4, lba2 hB2 hi4, ix6 hi4, cl6 hi4, h3, hnA, lt_t hiR (by omega), nI_1, X0_copyFrom_ev hB hB2 hne hi4]
      refine ih (i + 1) _ (by omega) (fun k hk => ?_) ?_ (fun a ha' => ?_)
      · rw [cp3_off (by omega)]; exact hF k hk
      · rw [cp3_off (by omega)]; exact h3
      · rcases Nat.lt_or_ge a i with g | g
        · exact (ha a g).to (cp3_off (by omega)) (fun _ _ => rfl)
        · obtain rfl : a = i := by omega
          exact (hR.2.1 a hiR).cp
  simp only [eX1_copyFrom_0, eX1_copyFrom_1, eX1_copyFrom_2, eX1_copyFrom_5, eX1_copyFrom_8, eX1_copyFrom_9, eX1_copyFrom_11, eX1_copyFrom_12, eX1_copyFrom_15, eX1_copyFrom_18, eX1_copyFrom_19, eX1_copyFrom_22, eX1_copyFrom_23, eX1_copyFrom_24, eX1_copyFrom_25, eX1_copyFrom_28, eX1_copyFrom_29, eX1_copyFrom_30, eX1_copyFrom_33, eX1_copyFrom_36, eX1_copyFrom_39, eX1_copyFrom_40, eX1_copyFrom_41, eX1_copyFrom_44, eX1_copyFrom_47, eX1_copyFrom_48, eX1_copyFrom_50, eX1_copyFrom_51, eX1_copyFrom_54, eX1_copyFrom_57, eX1_copyFrom_58, eX1_copyFrom_61, eX1_copyFrom_62, eX1_copyFrom_63, eX1_copyFrom_64, eX1_copyFrom_67, eX1_copyFrom_68, eX1_copyFrom_69, eX1_copyFrom_72, eX1_copyFrom_75, eX1_copyFrom_78, eX1_copyFrom_79, eX1_copyFrom_80, eX1_copyFrom_83, eX1_copyFrom_86, eX1_copyFrom_87, eX1_copyFrom_89, eX1_copyFrom_90, eX1_copyFrom_93, eX1_copyFrom_96, eX1_copyFrom_97, eX1_copyFrom_100, eX1_copyFrom_101, eX1_copyFrom_102, eX1_copyFrom_103, eX1_copyFrom_106, eX1_copyFrom_107, eX1_copyFrom_108, eX1_copyFrom_111, eX1_copyFrom_114, eX1_copyFrom_117, eX1_copyFrom_118, eX1_copyFrom_119, eX1_copyFrom_122, eX1_copyFrom_125, eX1_copyFrom_126, eX1_copyFrom_127, eX1_copyFrom_130, eX1_copyFrom_133, eX1_copyFrom_134, eX1_copyFrom_135, eX1_copyFrom_138, eX1_copyFrom_141, eX1_copyFrom_142, eX1_copyFrom_143, eX1_copyFrom_146, eX1_copyFrom_149, eX1_copyFrom_150, eX1_copyFrom_151, eX1_copyFrom_154, eX1_copyFrom_157, eX1_copyFrom_158, eX1_copyFrom_159, eX1_copyFrom_162, eX1_copyFrom_165, one0, and_false, false_and, gk, gr, gi, gs, rv_some, ret_i, ret_n, Option.bind_some, List.cons_append, List.nil_append, z0, z1, zi, zj, i10, i01, true_or, or_true, eq_self, not_false_eq_true, not_true_eq_false, if_true, if_false, ite_not, Decidable.not_not, and_true, true_and, or_false, false_or, Nat.reduceLeDiff, Nat.reduceMod, Nat.reduceEqDiff, lb0 hB, lb1 hB, lb2 hB, lb3 hB, lb4 hB, lb5 hB, lb6 hB, lb0 hB2, rbg3 hR, rbg4 hR, rbg5 hR, rbg6 hR, rbg7 hR, rbg8 hR, rbg9 hR, rbg10 hR, rbg11 hR]
  exact key1 nA 0 _ (by omega) (Fr.rf.u2 (by omega)) (by rw [u2_r, if_pos ⟨rfl, rfl⟩]) (fun a ha => absurd ha (by omega))
/-- new rows -/
def opnA (s : St) (n : Nat) (w al : Int32) : St := sG (sA (sA (sA s n 0 w) n 1 al) n 2 al) 4 (gp s 4 + 1)
def opnH (s : St) : St := sG s 5 (gp s 5 + 1)
def zerR (s : St) (r : Nat) : St := lp (fun k (x : St) => upd x (59 + 12 * r + k) 0) 0 12 s
def opnR (s : St) (r : Nat) (h a f : Int32) : St := sG (sR (sR (sR (sR (zerR s r) r 0 h) r 1 a) r 2 f) r 5 (-10009)) 6 (gp s 6 + 1)
theorem zerR_in (s : St) (r : Nat) {j : Nat} (hj : j < 12) : rp (zerR s r) r j = 0 := by
  have := lp_inv (fun i (x : St) => ∀ k, k < i → x (59 + 12 * r + k) = 0) (fun k (x : St) => upd x (59 + 12 * r + k) 0) 12 (fun i x hi h k hk => by
    show upd x (59 + 12 * r + i) 0 (59 + 12 * r + k) = 0
    unfold upd
    split
    · rfl
    · exact h k (by omega)) 12 0 s (by omega) (fun k hk => absurd hk (by omega))
  exact this j hj
theorem zerR_off (s : St) (r : Nat) {k : Nat} (hk : k < 59 + 12 * r ∨ 59 + 12 * r + 12 ≤ k) : zerR s r k = s k :=
  lp_inv (fun i (x : St) => x k = s k) (fun j (x : St) => upd x (59 + 12 * r + j) 0) 12 (fun i x hi h => by
    show upd x (59 + 12 * r + i) 0 k = s k
    unfold upd
    rw [if_neg (by omega)]
    exact h) 12 0 s (by omega) rfl
theorem sub1 (n : Nat) : nI (n + 1) - 1 = nI n := nI_pred n
theorem X1_openAsset_ev (hB : LB F o) (hR : RB I o s nA nH nR) (hT : Iv s nA nH nR) (hn : nA < 6) {w al : Int32} : ∃ I', pm_ev tb xl xs mX1_openAsset 0 [some (.ref o), some (.int w), some (.int al), none] [] (pm_G F I) = some (some (.int (nI nA)), pm_G F I') ∧ RB I' o (opnA s nA w al) (nA + 1) nH nR ∧ Fr I I' o := by
  have h6 := hT.1.1.2
  have h8 := hT.1.2.1.2
  have h40 := hT.1.2.2.1.2
  have hnA := hT.1.1.1
  have noa : (o = o + 2 + nA) = False := eq_false (by omega)
  have ha : nA < 6 := hn
  have h1 := ((((hR.wa0 (v := w) h6 h8 h40 hn).wa1 (v := al) h6 h8 h40 hn).wa2 (v := al) h6 h8 h40 hn).wg3 (v := nI (nA + 1)) h6 h8 h40)
  refine ⟨pm_u2 (pm_u2 (pm_u2 (pm_u2 I (o + 2 + nA) 0 w) (o + 2 + nA) 1 al) (o + 2 + nA) 2 al) o 3 (nI (nA + 1)), ?_, ?_, (((Fr.rf.u2 (by omega)).u2 (by omega)).u2 (by omega)).u2 (by omega)⟩
  · simp only [eX1_openAsset_0, eX1_openAsset_1, eX1_openAsset_4, eX1_openAsset_5, eX1_openAsset_8, eX1_openAsset_9, eX1_openAsset_10, eX1_openAsset_11, eX1_openAsset_12, eX1_openAsset_15, eX1_openAsset_16, eX1_openAsset_17, eX1_openAsset_20, eX1_openAsset_21, eX1_openAsset_22, eX1_openAsset_25, eX1_openAsset_26, eX1_openAsset_26_i, eX1_openAsset_27, eX1_openAsset_30, eX1_openAsset_31, eX1_openAsset_32, eX1_openAsset_35, eX1_openAsset_36, eX1_openAsset_39, eX1_openAsset_40, eX1_openAsset_41, one0, and_false, false_and, gk, gr, gi, gs, rv_some, ret_i, ret_n, Option.bind_some, List.cons_append, List.nil_append, z0, z1, zi, zj, i10, i01, true_or, or_true, eq_self, not_false_eq_true, not_true_eq_false, if_true, if_false, ite_not, Decidable.not_not, and_true, true_and, or_false, false_or, Nat.reduceLeDiff, Nat.reduceMod, Nat.reduceEqDiff, lb0 hB, lb1 hB, lb2 hB, lb3 hB, lb4 hB, lb5 hB, lb6 hB, lba hB ha, lba2 hB ha, ix6 ha, cl6 ha, rbg3 hR, rbg4 hR, rbg5 hR, rbg6 hR, rbg7 hR, rbg8 hR, rbg9 hR, rbg10 hR, rbg11 hR, hnA, u2_r, noa, nI_1, sub1]
  · unfold opnA
    rw [hnA, nI_1]
    refine ⟨h1.1, fun a ha' => ?_, h1.2.2⟩
    rcases Nat.lt_or_ge a nA with g | g
    · exact h1.2.1 a g
    · obtain rfl : a = nA := by omega
      have noa2 : (o + 2 + a = o) = False := eq_false (by omega)
      refine ⟨?_, ?_, ?_⟩ <;> simp only [u2_r, noa2, true_and, false_and, Nat.reduceEqDiff, if_true, if_false, ap_sG (show 4 < 9 by decide), ap_sA (show 0 < 3 by decide) (show 0 < 3 by decide), ap_sA (show 0 < 3 by decide) (show 1 < 3 by decide), ap_sA (show 0 < 3 by decide) (show 2 < 3 by decide), ap_sA (show 1 < 3 by decide) (show 1 < 3 by decide), ap_sA (show 1 < 3 by decide) (show 2 < 3 by decide), ap_sA (show 2 < 3 by decide) (show 2 < 3 by decide)]
theorem X1_openHunter_ev (hB : LB F o) (hR : RB I o s nA nH nR) (hT : Iv s nA nH nR) (hn : nH < 8) (hz : ∀ j, j < 4 → hp s nH j = 0) : ∃ I', pm_ev tb xl xs mX1_openHunter 0 [some (.ref o)] [] (pm_G F I) = some (some (.int (nI nH)), pm_G F I') ∧ RB I' o (opnH s) nA (nH + 1) nR ∧ Fr I I' o := by
  have h6 := hT.1.1.2
  have h8 := hT.1.2.1.2
  have h40 := hT.1.2.2.1.2
  have hnA := hT.1.2.1.1
  have noa : (o = o + 9 + nH) = False := eq_false (by omega)
  have hh : nH < 8 := hn
  have h1 := ((((hR.wh0 (v := 0) h6 h8 h40 hn).wh1 (v := 0) h6 h8 h40 hn).wh2 (v := 0) h6 h8 h40 hn).wh3 (v := 0) h6 h8 h40 hn).wg4 (v := nI (nH + 1)) h6 h8 h40
  have e : sH (sH (sH (sH s nH 0 0) nH 1 0) nH 2 0) nH 3 0 = s := by
    have := hz
    funext k
    unfold sH upd
    have z0 := hz 0 (by decide)
    have z1 := hz 1 (by decide)
    have z2 := hz 2 (by decide)
    have z3 := hz 3 (by decide)
    unfold hp at z0 z1 z2 z3
    split
    · rename_i h; rw [h, z3]
    · split
      · rename_i h; rw [h, z2]
      · split
        · rename_i h; rw [h, z1]
        · split
          · rename_i h; rw [h, z0]
          · rfl
  rw [e] at h1
  refine ⟨pm_u2 (pm_u2 (pm_u2 (pm_u2 (pm_u2 I (o + 9 + nH) 0 0) (o + 9 + nH) 1 0) (o + 9 + nH) 2 0) (o + 9 + nH) 3 0) o 4 (nI (nH + 1)), ?_, ?_, ((((Fr.rf.u2 (by omega)).u2 (by omega)).u2 (by omega)).u2 (by omega)).u2 (by omega)⟩
  · simp only [eX1_openHunter_0, eX1_openHunter_1, eX1_openHunter_4, eX1_openHunter_5, eX1_openHunter_8, eX1_openHunter_9, eX1_openHunter_12, eX1_openHunter_13, eX1_openHunter_13_i, eX1_openHunter_14, eX1_openHunter_17, eX1_openHunter_18, eX1_openHunter_19, eX1_openHunter_22, eX1_openHunter_23, eX1_openHunter_26, eX1_openHunter_27, eX1_openHunter_28, eX2_clear_0, eX2_clear_1, eX2_clear_2, eX2_clear_5, eX2_clear_6, eX2_clear_7, eX2_clear_10, eX2_clear_11, eX2_clear_12, eX2_clear_15, eX2_clear_16, eX2_clear_17, eX2_clear_20, one0, and_false, false_and, gk, gr, gi, gs, rv_some, ret_i, ret_n, Option.bind_some, List.cons_append, List.nil_append, z0, z1, zi, zj, i10, i01, true_or, or_true, eq_self, not_false_eq_true, not_true_eq_false, if_true, if_false, ite_not, Decidable.not_not, and_true, true_and, or_false, false_or, Nat.reduceLeDiff, Nat.reduceMod, Nat.reduceEqDiff, lb0 hB, lb1 hB, lb2 hB, lb3 hB, lb4 hB, lb5 hB, lb6 hB, lbh hB hh, lbh2 hB hh, ix8 hh, cl8 hh, rbg3 hR, rbg4 hR, rbg5 hR, rbg6 hR, rbg7 hR, rbg8 hR, rbg9 hR, rbg10 hR, rbg11 hR, hnA, u2_r, noa, nI_1, sub1]
  · unfold opnH
    rw [hnA, nI_1]
    refine ⟨h1.1, h1.2.1, fun a ha' => ?_, h1.2.2.2⟩
    rcases Nat.lt_or_ge a nH with g | g
    · exact h1.2.2.1 a g
    · obtain rfl : a = nH := by omega
      have noa2 : (o + 9 + a = o) = False := eq_false (by omega)
      refine ⟨?_, ?_, ?_, ?_⟩ <;> simp only [u2_r, noa2, true_and, false_and, Nat.reduceEqDiff, if_true, if_false, hp_sG (show 5 < 9 by decide), hz 0 (by decide), hz 1 (by decide), hz 2 (by decide), hz 3 (by decide)]
theorem X3_open_ev (hB : LB F o) {r : Nat} (hr : r < 40) {h a f : Int32} : pm_ev tb xl xs mX3_open 0 [some (.ref (o + 18 + r)), some (.int h), some (.int a), some (.int f)] [] (pm_G F I) = some (none, pm_G F (pm_u2 (pm_u2 (pm_u2 (pm_u2 (pm_u2 (pm_u2 (pm_u2 (pm_u2 (pm_u2 (pm_u2 (pm_u2 (pm_u2 I (o + 18 + r) 0 h) (o + 18 + r) 1 a) (o + 18 + r) 2 f) (o + 18 + r) 8 0) (o + 18 + r) 3 0) (o + 18 + r) 4 0) (o + 18 + r) 5 (-10009)) (o + 18 + r) 6 0) (o + 18 + r) 7 0) (o + 18 + r) 9 0) (o + 18 + r) 10 0) (o + 18 + r) 11 0)) := by
  simp only [eX3_open_0, eX3_open_1, eX3_open_2, eX3_open_5, eX3_open_6, eX3_open_7, eX3_open_10, eX3_open_11, eX3_open_12, eX3_open_15, eX3_open_16, eX3_open_17, eX3_open_20, eX3_open_21, eX3_open_24, one0, and_false, false_and, gk, gr, gi, gs, rv_some, ret_i, ret_n, Option.bind_some, List.cons_append, List.nil_append, z0, z1, zi, zj, i10, i01, true_or, or_true, eq_self, not_false_eq_true, not_true_eq_false, if_true, if_false, ite_not, Decidable.not_not, and_true, true_and, or_false, false_or, Nat.reduceLeDiff, Nat.reduceMod, Nat.reduceEqDiff, lbr hB hr, lbr2 hB hr, ix40 hr, cl40 hr, X3_makeNew_ev hB hr]
theorem X1_openReport_ev (hB : LB F o) (hR : RB I o s nA nH nR) (hT : Iv s nA nH nR) (hn : nR < 40) {h a f : Int32} : ∃ I', pm_ev tb xl xs mX1_openReport 0 [some (.ref o), some (.int h), some (.int a), some (.int f)] [] (pm_G F I) = some (some (.int (nI nR)), pm_G F I') ∧ RB I' o (opnR s nR h a f) nA nH (nR + 1) ∧ Fr I I' o := by
  have h6 := hT.1.1.2
  have h8 := hT.1.2.1.2
  have h40 := hT.1.2.2.1.2
  have hnA := hT.1.2.2.1.1
  have noa : (o = o + 18 + nR) = False := eq_false (by omega)
  have noa2 : (o + 18 + nR = o) = False := eq_false (by omega)
  have hr : nR < 40 := hn
  refine ⟨pm_u2 (pm_u2 (pm_u2 (pm_u2 (pm_u2 (pm_u2 (pm_u2 (pm_u2 (pm_u2 (pm_u2 (pm_u2 (pm_u2 (pm_u2 I (o + 18 + nR) 0 h) (o + 18 + nR) 1 a) (o + 18 + nR) 2 f) (o + 18 + nR) 8 0) (o + 18 + nR) 3 0) (o + 18 + nR) 4 0) (o + 18 + nR) 5 (-10009)) (o + 18 + nR) 6 0) (o + 18 + nR) 7 0) (o + 18 + nR) 9 0) (o + 18 + nR) 10 0) (o + 18 + nR) 11 0) o 5 (nI (nR + 1)), ?_, ?_, ?_⟩
  · simp only [eX1_openReport_0, eX1_openReport_1, eX1_openReport_4, eX1_openReport_5, eX1_openReport_8, eX1_openReport_9, eX1_openReport_10, eX1_openReport_11, eX1_openReport_12, eX1_openReport_15, eX1_openReport_16, eX1_openReport_16_i, eX1_openReport_17, eX1_openReport_20, eX1_openReport_21, eX1_openReport_22, eX1_openReport_25, eX1_openReport_26, eX1_openReport_29, eX1_openReport_30, eX1_openReport_31, one0, and_false, false_and, gk, gr, gi, gs, rv_some, ret_i, ret_n, Option.bind_some, List.cons_append, List.nil_append, z0, z1, zi, zj, i10, i01, true_or, or_true, eq_self, not_false_eq_true, not_true_eq_false, if_true, if_false, ite_not, Decidable.not_not, and_true, true_and, or_false, false_or, Nat.reduceLeDiff, Nat.reduceMod, Nat.reduceEqDiff, lb0 hB, lb1 hB, lb2 hB, lb3 hB, lb4 hB, lb5 hB, lb6 hB, lbr hB hr, lbr2 hB hr, ix40 hr, cl40 hr, rbg3 hR, rbg4 hR, rbg5 hR, rbg6 hR, rbg7 hR, rbg8 hR, rbg9 hR, rbg10 hR, rbg11 hR, X3_open_ev hB hr, hnA, u2_r, noa, nI_1, sub1]
  · unfold opnR
    rw [hnA, nI_1]
    have hoff : ∀ k, k < 59 ∨ 59 + 12 * nR + 12 ≤ k ∨ (59 ≤ k ∧ k < 59 + 12 * nR) → sG (sR (sR (sR (sR (zerR s nR) nR 0 h) nR 1 a) nR 2 f) nR 5 (-10009)) 6 (nI (nR + 1)) k = if k = 6 then nI (nR + 1) else s k := by
      intro k hk
      unfold sG sR upd
      by_cases e : k = 6
      · rw [if_pos e, if_pos e]
      · rw [if_neg e, if_neg e, if_neg (by omega), if_neg (by omega), if_neg (by omega), if_neg (by omega)]
        exact zerR_off s nR (by omega)
    have hw : ∀ k, k ≠ o + 18 + nR → k ≠ o → pm_u2 (pm_u2 (pm_u2 (pm_u2 (pm_u2 (pm_u2 (pm_u2 (pm_u2 (pm_u2 (pm_u2 (pm_u2 (pm_u2 (pm_u2 I (o + 18 + nR) 0 h) (o + 18 + nR) 1 a) (o + 18 + nR) 2 f) (o + 18 + nR) 8 0) (o + 18 + nR) 3 0) (o + 18 + nR) 4 0) (o + 18 + nR) 5 (-10009)) (o + 18 + nR) 6 0) (o + 18 + nR) 7 0) (o + 18 + nR) 9 0) (o + 18 + nR) 10 0) (o + 18 + nR) 11 0) o 5 (nI (nR + 1)) k = I k := by
      intro k h1 h2
      rw [u2_off h2, u2_off h1, u2_off h1, u2_off h1, u2_off h1, u2_off h1, u2_off h1, u2_off h1, u2_off h1, u2_off h1, u2_off h1, u2_off h1, u2_off h1]
    refine ⟨?_, fun q hq => (hR.2.1 q hq).to (hw _ (by omega) (by omega)) (fun j hj => ?_), fun q hq => (hR.2.2.1 q hq).to (hw _ (by omega) (by omega)) (fun j hj => ?_), fun q hq => ?_⟩
    · refine ⟨?_, ?_, ?_, ?_, ?_, ?_, ?_, ?_, ?_⟩ <;> simp only [u2_r, noa, true_and, false_and, Nat.reduceEqDiff, if_true, if_false, gp, hoff 0 (by omega), hoff 1 (by omega), hoff 2 (by omega), hoff 3 (by omega), hoff 4 (by omega), hoff 5 (by omega), hoff 6 (by omega), hoff 7 (by omega), hoff 8 (by omega), rbg3 hR, rbg4 hR, rbg5 hR, rbg6 hR, rbg7 hR, rbg8 hR, rbg9 hR, rbg10 hR, rbg11 hR]
      all_goals rfl
    · show _ = s _
      exact (hoff _ (by omega)).trans (if_neg (by omega))
    · show _ = s _
      exact (hoff _ (by omega)).trans (if_neg (by omega))
    · rcases Nat.lt_or_ge q nR with g | g
      · refine (hR.2.2.2 q g).to (hw _ (by omega) (by omega)) (fun j hj => ?_)
        show _ = s _
        exact (hoff _ (by omega)).trans (if_neg (by omega))
      · obtain rfl : q = nR := by omega
        have z := fun j (hj : j < 12) => zerR_in s q hj
        refine ⟨?_, ?_, ?_, ?_, ?_, ?_, ?_, ?_, ?_, ?_, ?_, ?_⟩ <;> simp only [u2_r, noa2, true_and, false_and, Nat.reduceEqDiff, if_true, if_false, rp_sG (show 6 < 9 by decide), rp_sR, z, Nat.reduceLT]
  · have hk : o ≤ o + 18 + nR ∧ o + 18 + nR < o + 58 := by omega
    exact ((((((((((((Fr.rf.u2 hk).u2 hk).u2 hk).u2 hk).u2 hk).u2 hk).u2 hk).u2 hk).u2 hk).u2 hk).u2 hk).u2 hk).u2 (by omega)
end CLS3

